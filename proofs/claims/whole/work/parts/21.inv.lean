/-! THE INVARIANT: the class's cells (0 .. 43) and the reference's (44 .. 68) tell the same -/
def Gr (A : List Nat) (F : List (Nat × Nat)) (w w' : mW) : Prop := (∀ a, a ∉ A → arr w' a = arr w a) ∧ ∀ a k, (a, k) ∉ F → fld w' a k = fld w a k
theorem Gr.rf {A : List Nat} {F : List (Nat × Nat)} {w : mW} : Gr A F w w := ⟨fun _ _ => rfl, fun _ _ _ => rfl⟩
theorem Gr.tr {A : List Nat} {F : List (Nat × Nat)} {w w' w'' : mW} (h : Gr A F w w') (h' : Gr A F w' w'') : Gr A F w w'' := ⟨fun a ha => (h'.1 a ha).trans (h.1 a ha), fun a k hk => (h'.2 a k hk).trans (h.2 a k hk)⟩
theorem Gr.up {A A' : List Nat} {F F' : List (Nat × Nat)} {w w' : mW} (h : Gr A F w w') (hA : ∀ a ∈ A, a ∈ A') (hF : ∀ a ∈ F, a ∈ F') : Gr A' F' w w' := ⟨fun a ha => h.1 a (fun q => ha (hA a q)), fun a k hk => h.2 a k (fun q => hk (hF _ q))⟩
theorem Gr.stA {A : List Nat} {F : List (Nat × Nat)} {w w' : mW} (h : Gr A F w w') {a : Nat} (ha : a ∈ A) (f : Nat → Int32) : Gr A F w (setA w' a f) := ⟨fun b hb => (arr_setA_a (a := a) (b := b) (by rintro rfl; exact hb ha) f).trans (h.1 b hb), fun b k hk => (fld_setA f).trans (h.2 b k hk)⟩
theorem Gr.stF {A : List Nat} {F : List (Nat × Nat)} {w w' : mW} (h : Gr A F w w') {a k : Nat} (ha : (a, k) ∈ F) (x : Int32) : Gr A F w (setF w' a k x) := ⟨fun b hb => (arr_setF x).trans (h.1 b hb), fun b j hj => by
  by_cases hb : b = a
  · subst hb
    have : j ≠ k := fun q => hj (q ▸ ha)
    exact (fld_setF_k this x).trans (h.2 _ j hj)
  · exact (fld_setF_a hb x).trans (h.2 b j hj)⟩
theorem Shape.fld0 {w : mW} (h : Shape w) {a n : Nat} (hs : mShp[a]? = some (.inl n)) (k : Nat) : fld w a k = 0 := by
  have := h.ar hs
  unfold fld
  rw [this]
theorem Fr.gr {S : List Nat} {w w' : mW} (h : Fr S w w') (hS : Shape w) (hS' : Shape w') (hA : ∀ a ∈ S, ∃ n, mShp[a]? = some (.inl n)) : Gr S [] w w' := by
  refine ⟨fun a ha => h.ar ha, fun a k _ => ?_⟩
  by_cases ha : a ∈ S
  · obtain ⟨n, hn⟩ := hA a ha
    rw [hS.fld0 hn, hS'.fld0 hn]
  · exact h.fl ha k
def BarOK (nb : Nat) (ki be pe si : Nat → Int32) : Prop := ∀ j, j < nb → (ki j = 0 ∨ ki j = 1 ∨ ki j = 2) ∧ (1 ≤ (be j).toInt ∧ (be j).toInt ≤ 4) ∧ (0 ≤ (pe j).toInt ∧ (pe j).toInt ≤ 9) ∧ (0 ≤ (si j).toInt ∧ (si j).toInt ≤ 9)
def WalOK (nb nw : Nat) (me pl re lo : Nat → Int32) : Prop := ∀ j, j < nw → (0 ≤ (me j).toInt ∧ (me j).toInt ≤ 99) ∧ (0 ≤ (pl j).toInt ∧ (pl j).toInt ≤ 9) ∧ (1 ≤ (re j).toInt ∧ (re j).toInt ≤ 9) ∧ (lo j = -9 ∨ ∃ b, b < nb ∧ lo j = nI b)
/-- the down -/
def DI (nb nw : Nat) (w : mW) : Prop := nb ≤ 5 ∧ nw ≤ 5 ∧ (nb = 0 ↔ nw = 0) ∧ (fld w 7 0).toInt = (nb : Int) ∧ (fld w 7 1).toInt = (nw : Int) ∧ BarOK nb (arr w 8) (arr w 9) (arr w 10) (arr w 11) ∧ WalOK nb nw (arr w 12) (arr w 13) (arr w 14) (arr w 15) ∧
  (fld w 44 5 = fld w 7 0 ∧ fld w 44 6 = fld w 7 1 ∧ fld w 44 7 = fld w 7 2) ∧ (arr w 48 = arr w 8 ∧ arr w 49 = arr w 9 ∧ arr w 50 = arr w 10 ∧ arr w 51 = arr w 11 ∧ arr w 52 = arr w 12 ∧ arr w 53 = arr w 13 ∧ arr w 54 = arr w 14 ∧ arr w 55 = arr w 15 ∧ arr w 56 = arr w 16)
/-- readings -/
def RI (nb nr : Nat) (w : mW) : Prop := nr ≤ 8 ∧ (fld w 40 3).toInt = (nr : Int) ∧ (∀ r, r < nr → ∃ b, b < nb ∧ arr w 41 r = nI b) ∧ fld w 44 32 = fld w 40 3 ∧ arr w 66 = arr w 41 ∧ arr w 67 = arr w 42 ∧ arr w 68 = arr w 43
/-- sheets -/
def SI (w : mW) : Prop := ∀ k, k < 4 → (arr w 2 k = -1 ∧ arr w 45 k = -9) ∨ (0 ≤ (arr w 2 k).toInt ∧ (arr w 2 k).toInt ≤ 2 ∧ arr w 45 k = arr w 2 k ∧ arr w 46 k = arr w 3 k ∧ ∃ n : Nat, n ≤ 60 ∧ arr w 3 k = nI n ∧ ∀ i, i < n → arr w 47 (60 * k + i) = arr w 4 (60 * k + i))
/-- trace and fault -/
def TI (w : mW) : Prop := fld w 44 0 = fld w 0 8 ∧ fld w 44 1 = fld w 0 7
def Inv (w : mW) : Prop := Shape w ∧ ∃ nb nw nr, DI nb nw w ∧ RI nb nr w ∧ SI w ∧ TI w
abbrev dA : List Nat := [8, 9, 10, 11, 12, 13, 14, 15, 16, 48, 49, 50, 51, 52, 53, 54, 55, 56]
abbrev dF : List (Nat × Nat) := [(7, 0), (7, 1), (7, 2), (44, 5), (44, 6), (44, 7)]
theorem DI.gr {nb nw : Nat} {A : List Nat} {F : List (Nat × Nat)} {w w' : mW} (h : DI nb nw w) (g : Gr A F w w') (hA : ∀ a ∈ dA, a ∉ A) (hF : ∀ a ∈ dF, a ∉ F) : DI nb nw w' := by
  unfold DI at *
  rw [g.1 8 (hA _ (by decide)), g.1 9 (hA _ (by decide)), g.1 10 (hA _ (by decide)), g.1 11 (hA _ (by decide)), g.1 12 (hA _ (by decide)), g.1 13 (hA _ (by decide)), g.1 14 (hA _ (by decide)), g.1 15 (hA _ (by decide)), g.1 16 (hA _ (by decide)), g.1 48 (hA _ (by decide)), g.1 49 (hA _ (by decide)), g.1 50 (hA _ (by decide)), g.1 51 (hA _ (by decide)), g.1 52 (hA _ (by decide)), g.1 53 (hA _ (by decide)), g.1 54 (hA _ (by decide)), g.1 55 (hA _ (by decide)), g.1 56 (hA _ (by decide)), g.2 7 0 (hF _ (by decide)), g.2 7 1 (hF _ (by decide)), g.2 7 2 (hF _ (by decide)), g.2 44 5 (hF _ (by decide)), g.2 44 6 (hF _ (by decide)), g.2 44 7 (hF _ (by decide))]
  exact h
theorem RI.gr {nb nr : Nat} {A : List Nat} {F : List (Nat × Nat)} {w w' : mW} (h : RI nb nr w) (g : Gr A F w w') (hA : ∀ a ∈ [41, 42, 43, 66, 67, 68], a ∉ A) (hF : ∀ a ∈ [(40, 3), (44, 32)], a ∉ F) : RI nb nr w' := by
  unfold RI at *
  rw [g.1 41 (hA _ (by decide)), g.1 42 (hA _ (by decide)), g.1 43 (hA _ (by decide)), g.1 66 (hA _ (by decide)), g.1 67 (hA _ (by decide)), g.1 68 (hA _ (by decide)), g.2 40 3 (hF _ (by decide)), g.2 44 32 (hF _ (by decide))]
  exact h
theorem SI.gr {A : List Nat} {F : List (Nat × Nat)} {w w' : mW} (h : SI w) (g : Gr A F w w') (hA : ∀ a ∈ [2, 3, 4, 45, 46, 47], a ∉ A) : SI w' := by
  unfold SI at *
  rw [g.1 2 (hA _ (by decide)), g.1 3 (hA _ (by decide)), g.1 4 (hA _ (by decide)), g.1 45 (hA _ (by decide)), g.1 46 (hA _ (by decide)), g.1 47 (hA _ (by decide))]
  exact h
theorem TI.gr {A : List Nat} {F : List (Nat × Nat)} {w w' : mW} (h : TI w) (g : Gr A F w w') (hF : ∀ a ∈ [(44, 0), (0, 8), (44, 1), (0, 7)], a ∉ F) : TI w' := by
  unfold TI at *
  rw [g.2 44 0 (hF _ (by decide)), g.2 0 8 (hF _ (by decide)), g.2 44 1 (hF _ (by decide)), g.2 0 7 (hF _ (by decide))]
  exact h
/-- a call of the class and of the reference: the same answer, and the invariant holds behind them -/
def Both (MX MM : mM) (av : List Value) (w : mW) : Prop := ∀ d, mC (d + 20) MX (.ref 0 :: av) w (fun r w1 => mC (d + 20) MM (.ref 44 :: av) w1 (fun r' w2 => r' = r ∧ Inv w2))
theorem in_nI {b : Int32} {x : Int32} {n : Nat} (hx : x.toInt = (n : Int)) (hn : n < 2 ^ 31) (h : 0 ≤ b ∧ b < x) : ∃ j, j < n ∧ b = nI j := by
  obtain ⟨j, h1, h2⟩ := nI_of (x := b) (Int32.not_lt.mpr h.1)
  subst h2
  refine ⟨j, ?_, rfl⟩
  have := h.2
  rw [i_lt, nI_toInt h1, hx] at this
  omega

