-- lain: rows by what was dreamt
def drN (ρ : Nat → Nat) (c : Nat) : Nat → Nat
  | 0 => 10 + c
  | k + 1 => if ρ k = c then k else drN ρ c k
theorem drN_congr {ρ ρ' : Nat → Nat} {c : Nat} : ∀ {k : Nat}, (∀ i, i < k → ρ i = ρ' i) → drN ρ c k = drN ρ' c k
  | 0, _ => rfl
  | k + 1, h => by simp only [drN]; rw [h k (by omega), drN_congr (fun i hi => h i (by omega))]
theorem drN_le {ρ : Nat → Nat} {c : Nat} : ∀ {k : Nat}, drN ρ c k ≤ 10 + c + k
  | 0 => Nat.le_refl _
  | k + 1 => by have := drN_le (ρ := ρ) (c := c) (k := k); simp only [drN]; split <;> omega
theorem drN_nI {ρ : Nat → Nat} {r : Nat → Int32} {c : Nat} (hc : c ≤ 10) : ∀ {k : Nat}, (∀ i, i < k → r i = nI (ρ i) ∧ ρ i ≤ 10) → k ≤ 10 → dreamN r (nI c) k = nI (drN ρ c k)
  | 0, _, _ => by
    show (10 : Int32) + nI c = nI (10 + c)
    exact nI_add 10 c
  | k + 1, h, hk => by
    have ih := drN_nI (ρ := ρ) (r := r) hc (k := k) (fun i hi => h i (by omega)) (by omega)
    obtain ⟨h1, h2⟩ := h k (by omega)
    simp only [drN, dreamN]
    rw [h1]
    by_cases e : ρ k = c
    · rw [if_pos (by rw [e]), if_pos e]
    · rw [if_neg (fun q => e ((nI_eq (by omega) (by omega)).mp q)), if_neg e, ih]
def drR (nb : Nat) (ρ : Nat → Nat) (i : Nat) : Int32 := if ρ i = nb then 99 else nI (drN ρ (ρ i) i)
def toldB (dr : Nat → Int32) (i : Nat) (x : Int32) : Bool := decide (dr i = -9 ∨ dr i = x)
def lAcc (nb n : Nat) (H : Nat → Nat) (dr : Nat → Int32) (ρ : Nat → Nat) : Bool := allN (fun i => toldB dr i (drR nb ρ i)) n && hHeld nb n H ρ
abbrev lSt : Type := Nat × (Nat → Nat)
def lF (nb n : Nat) (H : Nat → Nat) (dr : Nat → Int32) (fo : Bool) (ρ : Nat → Nat) (s : lSt) : lSt := if (fo = true ∧ 0 < s.1) ∨ ¬ lAcc nb n H dr ρ = true then s else (s.1 + 1, if s.1 = 0 then hTr n ρ else s.2)
theorem drR_congr {nb : Nat} {ρ ρ' : Nat → Nat} {i : Nat} (h : ∀ k, k ≤ i → ρ k = ρ' k) : drR nb ρ i = drR nb ρ' i := by
  unfold drR
  rw [h i (Nat.le_refl i), drN_congr (fun k hk => h k (by omega))]
theorem lF_ext {nb n : Nat} {H : Nat → Nat} {dr : Nat → Int32} {fo : Bool} : extN n (lF nb n H dr fo) := by
  intro ρ ρ' s h
  have e1 : hTr n ρ = hTr n ρ' := by
    funext i; unfold hTr; split
    · exact h i (by assumption)
    · rfl
  have e2 : lAcc nb n H dr ρ = lAcc nb n H dr ρ' := by
    unfold lAcc
    rw [hHeld_congr h, allN_congr (fun i hi => by rw [drR_congr (fun k hk => h k (by omega))])]
  unfold lF
  rw [e1, e2]
theorem lF_1 {nb n : Nat} {H : Nat → Nat} {dr : Nat → Int32} {fo : Bool} {ρ : Nat → Nat} {s : lSt} (h : fo = true) (h2 : 0 < s.1) : lF nb n H dr fo ρ s = s := by unfold lF; rw [if_pos (Or.inl ⟨h, h2⟩)]
theorem lF_2 {nb n : Nat} {H : Nat → Nat} {dr : Nat → Int32} {fo : Bool} {ρ : Nat → Nat} {s : lSt} (h : ¬ lAcc nb n H dr ρ = true) : lF nb n H dr fo ρ s = s := by unfold lF; rw [if_pos (Or.inr h)]
theorem lF_3 {nb n : Nat} {H : Nat → Nat} {dr : Nat → Int32} {fo : Bool} {ρ : Nat → Nat} {s : lSt} (h : ¬ (fo = true ∧ 0 < s.1)) (h2 : lAcc nb n H dr ρ = true) : lF nb n H dr fo ρ s = (s.1 + 1, if s.1 = 0 then hTr n ρ else s.2) := by unfold lF; rw [if_neg (fun q => q.elim h (fun z => z h2))]
theorem foldN_cnt {g : Nat → lSt → lSt} {K : Nat} : ∀ {n : Nat} {s : lSt}, (∀ c, c < n → ∀ s, (g c s).1 ≤ s.1 + K) → (foldN g n s).1 ≤ s.1 + n * K
  | 0, _, _ => by simp [foldN]
  | n + 1, s, h => by
    have h1 := foldN_cnt (n := n) (s := s) (fun c hc s => h c (by omega) s)
    have h2 := h n (by omega) (foldN g n s)
    show (g n (foldN g n s)).1 ≤ _
    rw [Nat.succ_mul]; omega
theorem enum_cnt {nb n : Nat} {H : Nat → Nat} {dr : Nat → Int32} {fo : Bool} : ∀ {m j : Nat} {ρ : Nat → Nat} {s : lSt}, (enum (nb + 1) (lF nb n H dr fo) m j ρ s).1 ≤ s.1 + (nb + 1) ^ m
  | 0, j, ρ, s => by
    show (lF nb n H dr fo ρ s).1 ≤ s.1 + 1
    unfold lF; split
    · exact Nat.le_succ _
    · exact Nat.le_refl _
  | m + 1, j, ρ, s => by
    have := foldN_cnt (g := fun c s => enum (nb + 1) (lF nb n H dr fo) m (j + 1) (ud ρ j c) s) (K := (nb + 1) ^ m) (n := nb + 1) (s := s) (fun c _ s => enum_cnt)
    rw [Nat.pow_succ, Nat.mul_comm]; exact this
theorem lBad_id {nb n : Nat} {H : Nat → Nat} {dr : Nat → Int32} {fo : Bool} {m j c : Nat} {ρ : Nat → Nat} {s : lSt} (hj : j + (m + 1) = n) (h : toldB dr j (drR nb (ud ρ j c) j) = false ∨ (c < nb ∧ H c ≤ hIn ρ c j)) : enum (nb + 1) (lF nb n H dr fo) m (j + 1) (ud ρ j c) s = s := by
  refine enum_id (n := n) (by omega) (fun ρ' h1 _ => lF_2 (fun q => ?_))
  unfold lAcc hHeld at q
  rw [Bool.and_eq_true, allN_iff, allN_iff] at q
  have ej : ρ' j = c := by rw [h1 j (by omega), ud_eq]
  rcases h with h | ⟨hc, h⟩
  · have := q.1 j (by omega)
    rw [drR_congr (fun k hk => h1 k (by omega)), h] at this
    cases this
  · have := q.2 c hc
    rw [decide_eq_true_eq] at this
    have e1 := hIn_mono (b := c) (ρ := ρ') (j := j + 1) (m := m)
    rw [show j + 1 + m = n by omega, hIn_s, if_pos ej, hIn_congr (ρ' := ρ) (fun i hi => by rw [h1 i (by omega), ud_ne (by omega)])] at e1
    omega
theorem enum_rel {S T : Type} {B : Nat} {f : (Nat → Nat) → S → S} {g : (Nat → Nat) → T → T} {R : S → T → Prop} (h : ∀ ρ s t, R s t → R (f ρ s) (g ρ t)) : ∀ {m j : Nat} {ρ : Nat → Nat} {s : S} {t : T}, R s t → R (enum B f m j ρ s) (enum B g m j ρ t)
  | 0, _, ρ, s, t, hr => h ρ s t hr
  | m + 1, j, ρ, s, t, hr => by
    show R (foldN (fun c s => enum B f m (j + 1) (ud ρ j c) s) B s) (foldN (fun c t => enum B g m (j + 1) (ud ρ j c) t) B t)
    have : ∀ n, R (foldN (fun c s => enum B f m (j + 1) (ud ρ j c) s) n s) (foldN (fun c t => enum B g m (j + 1) (ud ρ j c) t) n t) := by
      intro n
      induction n with
      | zero => exact hr
      | succ n ih => exact enum_rel h ih
    exact this B
theorem lF_rel {nb n : Nat} {H : Nat → Nat} {dr : Nat → Int32} {m j : Nat} {ρ : Nat → Nat} : ∀ {s t : lSt}, ((s.1 = 0 ∧ t.1 = 0) ∨ (0 < s.1 ∧ 0 < t.1 ∧ s.2 = t.2)) → (((enum (nb + 1) (lF nb n H dr true) m j ρ s).1 = 0 ∧ (enum (nb + 1) (lF nb n H dr false) m j ρ t).1 = 0) ∨ (0 < (enum (nb + 1) (lF nb n H dr true) m j ρ s).1 ∧ 0 < (enum (nb + 1) (lF nb n H dr false) m j ρ t).1 ∧ (enum (nb + 1) (lF nb n H dr true) m j ρ s).2 = (enum (nb + 1) (lF nb n H dr false) m j ρ t).2)) := by
  intro s t hr
  refine enum_rel (R := fun s t : lSt => (s.1 = 0 ∧ t.1 = 0) ∨ (0 < s.1 ∧ 0 < t.1 ∧ s.2 = t.2)) (fun ρ s t h => ?_) hr
  by_cases ha : lAcc nb n H dr ρ = true
  · rw [lF_3 (fo := false) (by simp) ha]
    rcases h with ⟨h1, h2⟩ | ⟨h1, h2, h3⟩
    · rw [lF_3 (fo := true) (by omega) ha, if_pos h1, if_pos h2]
      exact Or.inr ⟨by simp, by simp, rfl⟩
    · rw [lF_1 rfl h1, if_neg (by omega)]
      exact Or.inr ⟨h1, by simp, h3⟩
  · rw [lF_2 ha, lF_2 ha]; exact h
def xLW (w : mW) (row fi left lat : Nat → Int32) (wy : Int32) : mW := setF (setA (setA (setA (setA w 36 row) 37 fi) 38 left) 39 lat) 34 5 wy
section
variable {w : mW} {row fi left lat x : Nat → Int32} {wy y : Int32}
theorem xLW_S (hS : Shape w) : Shape (xLW w row fi left lat wy) := ((((hS.stA 36 _).stA 37 _).stA 38 _).stA 39 _).stF rfl rfl _
theorem xLW_36 (hS : Shape w) : arr (xLW w row fi left lat wy) 36 = row := by unfold xLW; rw [arr_setF, arr_setA_a (by decide), arr_setA_a (by decide), arr_setA_a (by decide), arr_setA hS rfl]
theorem xLW_37 (hS : Shape w) : arr (xLW w row fi left lat wy) 37 = fi := by unfold xLW; rw [arr_setF, arr_setA_a (by decide), arr_setA_a (by decide), arr_setA (hS.stA _ _) rfl]
theorem xLW_38 (hS : Shape w) : arr (xLW w row fi left lat wy) 38 = left := by unfold xLW; rw [arr_setF, arr_setA_a (by decide), arr_setA ((hS.stA _ _).stA _ _) rfl]
theorem xLW_39 (hS : Shape w) : arr (xLW w row fi left lat wy) 39 = lat := by unfold xLW; rw [arr_setF, arr_setA (((hS.stA _ _).stA _ _).stA _ _) rfl]
theorem xLW_a {a : Nat} (h1 : a ≠ 36) (h2 : a ≠ 37) (h3 : a ≠ 38) (h4 : a ≠ 39) : arr (xLW w row fi left lat wy) a = arr w a := by unfold xLW; rw [arr_setF, arr_setA_a h4, arr_setA_a h3, arr_setA_a h2, arr_setA_a h1]
theorem xLW_5 (hS : Shape w) : fld (xLW w row fi left lat wy) 34 5 = wy := by unfold xLW; rw [fld_setF ((((hS.stA _ _).stA _ _).stA _ _).stA _ _) rfl rfl]
theorem xLW_6 : fld (xLW w row fi left lat wy) 34 6 = fld w 34 6 := by unfold xLW; rw [fld_setF_k (by decide), fld_setA, fld_setA, fld_setA, fld_setA]
theorem xLW_f {a k : Nat} (h : a ≠ 34) : fld (xLW w row fi left lat wy) a k = fld w a k := by unfold xLW; rw [fld_setF_a h, fld_setA, fld_setA, fld_setA, fld_setA]
theorem xLW_s36 : setA (xLW w row fi left lat wy) 36 x = xLW w x fi left lat wy := by unfold xLW; rw [setA_setF _ (by decide), setA_comm _ (show (39 : Nat) ≠ 36 by decide), setA_comm _ (show (38 : Nat) ≠ 36 by decide), setA_comm _ (show (37 : Nat) ≠ 36 by decide), setA_setA]
theorem xLW_s37 : setA (xLW w row fi left lat wy) 37 x = xLW w row x left lat wy := by unfold xLW; rw [setA_setF _ (by decide), setA_comm _ (show (39 : Nat) ≠ 37 by decide), setA_comm _ (show (38 : Nat) ≠ 37 by decide), setA_setA]
theorem xLW_s38 : setA (xLW w row fi left lat wy) 38 x = xLW w row fi x lat wy := by unfold xLW; rw [setA_setF _ (by decide), setA_comm _ (show (39 : Nat) ≠ 38 by decide), setA_setA]
theorem xLW_s39 : setA (xLW w row fi left lat wy) 39 x = xLW w row fi left x wy := by unfold xLW; rw [setA_setF _ (by decide), setA_setA]
theorem xLW_s5 : setF (xLW w row fi left lat wy) 34 5 y = xLW w row fi left lat y := by unfold xLW; rw [setF_setF]
end
theorem c_X2_isTold {d : Nat} {w : mW} {i : Nat} {x : Int32} (hS : Shape w) (hi : i < 5) : mC d kX2_isTold [.ref 34, .int (nI i), .int x] w (fun r w' => r = some (.int (b2 (toldB (arr w 35) i x = true))) ∧ w' = w) := by
  refine mC.of (L := [_, _, _]) okX2_isTold 0 rfl rfl ?_
  refine x_aload_n (pc := 0) (i := 0) dX2_isTold_0 rfl rfl ?_
  refine x_getR (pc := 1) hS fX2_9 dX2_isTold_1 rfl rfl ?_
  refine x_iload_n (pc := 4) (i := 1) dX2_isTold_4 rfl rfl ?_
  refine x_aldN (pc := 5) hS dX2_isTold_5 rfl (by omega) (by decide) ?_
  refine x_bipush (pc := 6) (v := (-9)) dX2_isTold_6 (by decide) ?_
  refine x_icmp_eq (pc := 8) (tgt := 21) dX2_isTold_8 (by decide) (fun h8 => ?_) (fun h8 => ?_)
  · refine x_iconst (pc := 21) (v := 1) dX2_isTold_21 (by decide) ?_
    refine x_goto (pc := 22) (tgt := 26) dX2_isTold_22 (by decide) ?_
    refine x_ri (pc := 26) dX2_isTold_26 rfl rfl ?_
    exact ⟨by unfold toldB b2; split <;> first | rfl | (exfalso; simp_all), rfl⟩
  · refine x_aload_n (pc := 11) (i := 0) dX2_isTold_11 rfl rfl ?_
    refine x_getR (pc := 12) hS fX2_9 dX2_isTold_12 rfl rfl ?_
    refine x_iload_n (pc := 15) (i := 1) dX2_isTold_15 rfl rfl ?_
    refine x_aldN (pc := 16) hS dX2_isTold_16 rfl (by omega) (by decide) ?_
    refine x_iload_n (pc := 17) (i := 2) dX2_isTold_17 rfl rfl ?_
    refine x_icmp_ne (pc := 18) (tgt := 25) dX2_isTold_18 (by decide) (fun h18 => ?_) (fun h18 => ?_)
    · refine x_iconst (pc := 25) (v := 0) dX2_isTold_25 (by decide) ?_
      refine x_ri (pc := 26) dX2_isTold_26 rfl rfl ?_
      exact ⟨by unfold toldB b2; split <;> first | rfl | (exfalso; simp_all), rfl⟩
    · refine x_iconst (pc := 21) (v := 1) dX2_isTold_21 (by decide) ?_
      refine x_goto (pc := 22) (tgt := 26) dX2_isTold_22 (by decide) ?_
      refine x_ri (pc := 26) dX2_isTold_26 rfl rfl ?_
      exact ⟨by unfold toldB b2; split <;> first | rfl | (exfalso; simp_all), rfl⟩
theorem c_X2_keep {d : Nat} {w : mW} {row fi left lat : Nat → Int32} {t nw : Nat} (hS0 : Shape w) (hnw : nw ≤ 5) (ht : t < 20000) : mC d kX2_keep [.ref 34, .int (nI nw)] (xLW w row fi left lat (nI t)) (fun r w' => r = none ∧ w' = xLW w row (if t = 0 then tkI nw row fi else fi) left lat (nI (t + 1))) := by
  have tw : (nI nw).toInt = (nw : Int) := nI_toInt (by omega)
  have lp : t = 0 → ∀ (m k : Nat), k ≤ nw → nw < k + m → mJ mX0 d kX2_keep (fun r w' => r = none ∧ w' = xLW w row (if t = 0 then tkI nw row fi else fi) left lat (nI (t + 1))) 9 [.ref 34, .int (nI nw), .int (nI k)] [] (xLW w row (tkI k row fi) left lat (nI t)) := by
    intro h0 m
    induction m with
    | zero => intro k h1 h2; omega
    | succ m ih =>
      intro k hk1 hk2
      have tk : (nI k).toInt = (k : Int) := nI_toInt (by omega)
      have hS : Shape (xLW w row (tkI k row fi) left lat (nI t)) := xLW_S hS0
      refine x_iload_n (pc := 9) (i := 2) dX2_keep_9 rfl rfl ?_
      refine x_iload_n (pc := 10) (i := 1) dX2_keep_10 rfl rfl ?_
      refine x_icmp_ge (pc := 11) (tgt := 32) dX2_keep_11 (by decide) (fun h11 => ?_) (fun h11 => ?_)
      · refine x_aload_n (pc := 32) (i := 0) dX2_keep_32 rfl rfl ?_
        refine x_dup (pc := 33) dX2_keep_33 rfl ?_
        refine x_getI (pc := 34) hS fX2_43 dX2_keep_34 rfl rfl ?_
        rw [xLW_5 hS0]
        refine x_iconst (pc := 37) (v := 1) dX2_keep_37 (by decide) ?_
        refine x_iadd (pc := 38) dX2_keep_38 ?_
        rw [nI_1]
        refine x_putI (pc := 39) hS fX2_43 dX2_keep_39 rfl rfl rfl rfl (fun hS => ?_)
        rw [xLW_s5]
        refine x_rv (pc := 42) dX2_keep_42 rfl ?_
        exact ⟨rfl, by rw [if_pos h0, show k = nw by (try simp only [b2_e0, b2_n0, Decidable.not_not] at *) <;> (try simp only [i_lt, i_le, i_eq, not_and, not_or, ne_eq, il_0, il_1, il_2, il_3, il_4, il_5, il_6, il_7, il_8, il_9, il_10, il_14, il_15, il_19, il_20, il_24, il_30, il_31, il_44, il_48, il_49, il_52, il_57, il_59, il_60, il_70, il_99, il_100, il_103, il_108, il_114, il_m1, il_m2, il_m3, il_m4, il_m9, il_m10, il_m100] at *) <;> omega]⟩
      · refine x_aload_n (pc := 14) (i := 0) dX2_keep_14 rfl rfl ?_
        refine x_getR (pc := 15) hS fX2_18 dX2_keep_15 rfl rfl ?_
        refine x_iload_n (pc := 18) (i := 2) dX2_keep_18 rfl rfl ?_
        refine x_aload_n (pc := 19) (i := 0) dX2_keep_19 rfl rfl ?_
        refine x_getR (pc := 20) hS fX2_15 dX2_keep_20 rfl rfl ?_
        refine x_iload_n (pc := 23) (i := 2) dX2_keep_23 rfl rfl ?_
        refine x_aldN (pc := 24) hS dX2_keep_24 rfl (by (try simp only [b2_e0, b2_n0, Decidable.not_not] at *) <;> (try simp only [i_lt, i_le, i_eq, not_and, not_or, ne_eq, il_0, il_1, il_2, il_3, il_4, il_5, il_6, il_7, il_8, il_9, il_10, il_14, il_15, il_19, il_20, il_24, il_30, il_31, il_44, il_48, il_49, il_52, il_57, il_59, il_60, il_70, il_99, il_100, il_103, il_108, il_114, il_m1, il_m2, il_m3, il_m4, il_m9, il_m10, il_m100] at *) <;> omega) (by decide) ?_
        rw [xLW_36 hS0]
        refine x_astN (pc := 25) hS dX2_keep_25 rfl (by (try simp only [b2_e0, b2_n0, Decidable.not_not] at *) <;> (try simp only [i_lt, i_le, i_eq, not_and, not_or, ne_eq, il_0, il_1, il_2, il_3, il_4, il_5, il_6, il_7, il_8, il_9, il_10, il_14, il_15, il_19, il_20, il_24, il_30, il_31, il_44, il_48, il_49, il_52, il_57, il_59, il_60, il_70, il_99, il_100, il_103, il_108, il_114, il_m1, il_m2, il_m3, il_m4, il_m9, il_m10, il_m100] at *) <;> omega) (by decide) (fun hS => ?_)
        rw [xLW_37 hS0, xLW_s37, tkI_s]
        refine x_iinc (pc := 26) (L' := [_, _, _]) dX2_keep_26 (by decide) rfl (by first | exact nI_inc _ | rfl) rfl ?_
        refine x_goto (pc := 29) (tgt := 9) dX2_keep_29 (by decide) ?_
        exact ih (k + 1) (by (try simp only [b2_e0, b2_n0, Decidable.not_not] at *) <;> (try simp only [i_lt, i_le, i_eq, not_and, not_or, ne_eq, il_0, il_1, il_2, il_3, il_4, il_5, il_6, il_7, il_8, il_9, il_10, il_14, il_15, il_19, il_20, il_24, il_30, il_31, il_44, il_48, il_49, il_52, il_57, il_59, il_60, il_70, il_99, il_100, il_103, il_108, il_114, il_m1, il_m2, il_m3, il_m4, il_m9, il_m10, il_m100] at *) <;> omega) (by omega)
  have hS : Shape (xLW w row fi left lat (nI t)) := xLW_S hS0
  refine mC.of (L := [_, _, _]) okX2_keep 1 rfl rfl ?_
  refine x_aload_n (pc := 0) (i := 0) dX2_keep_0 rfl rfl ?_
  refine x_getI (pc := 1) hS fX2_43 dX2_keep_1 rfl rfl ?_
  rw [xLW_5 hS0]
  refine x_if_ne (pc := 4) (tgt := 32) dX2_keep_4 (by decide) (fun h4 => ?_) (fun h4 => ?_)
  · refine x_aload_n (pc := 32) (i := 0) dX2_keep_32 rfl rfl ?_
    refine x_dup (pc := 33) dX2_keep_33 rfl ?_
    refine x_getI (pc := 34) hS fX2_43 dX2_keep_34 rfl rfl ?_
    rw [xLW_5 hS0]
    refine x_iconst (pc := 37) (v := 1) dX2_keep_37 (by decide) ?_
    refine x_iadd (pc := 38) dX2_keep_38 ?_
    rw [nI_1]
    refine x_putI (pc := 39) hS fX2_43 dX2_keep_39 rfl rfl rfl rfl (fun hS => ?_)
    rw [xLW_s5]
    refine x_rv (pc := 42) dX2_keep_42 rfl ?_
    exact ⟨rfl, by rw [if_neg (fun q => h4 (by rw [q]; rfl))]⟩
  · refine x_iconst (pc := 7) (v := 0) dX2_keep_7 (by decide) ?_
    refine x_istore_n (pc := 8) (i := 2) (L' := [_, _, _]) dX2_keep_8 rfl (by decide) rfl ?_
    have h9 := lp (by by_cases e : t = 0; exact e; exact absurd h4 (nI_ne0 (by omega) (by omega))) (nw + 1) 0 (by omega) (by omega)
    rw [tkI_0] at h9
    exact h9
def lX (n : Nat) (s : lSt) (wy : Int32) (fi : Nat → Int32) : Prop := wy = nI s.1 ∧ (s.1 = 0 ∨ ∀ i, i < n → fi i = nI (s.2 i))
def lGd (nb j : Nat) (H : Nat → Nat) (dr : Nat → Int32) (ρ : Nat → Nat) (left lat : Nat → Int32) : Prop := (∀ i, i < j → ρ i ≤ nb ∧ toldB dr i (drR nb ρ i) = true) ∧ ∀ b, b < nb → lat b = nI (drN ρ b j) ∧ ∃ l, left b = nI l ∧ l + hIn ρ b j = H b
theorem lGd.leaf {nb n : Nat} {H : Nat → Nat} {dr : Nat → Int32} {ρ : Nat → Nat} {left lat : Nat → Int32} (h : lGd nb n H dr ρ left lat) : lAcc nb n H dr ρ = true := by
  unfold lAcc hHeld
  rw [Bool.and_eq_true, allN_iff, allN_iff]
  refine ⟨fun i hi => (h.1 i hi).2, fun b hb => ?_⟩
  obtain ⟨-, l, h1, h2⟩ := h.2 b hb
  exact decide_eq_true (by omega)
theorem drR_ud {nb : Nat} {ρ : Nat → Nat} {j c : Nat} : drR nb (ud ρ j c) j = if c = nb then 99 else nI (drN ρ c j) := by
  unfold drR
  rw [ud_eq, drN_congr (ρ' := ρ) (fun i hi => ud_ne (by omega))]
theorem lGd.none {nb j : Nat} {H : Nat → Nat} {dr : Nat → Int32} {ρ : Nat → Nat} {left lat : Nat → Int32} (h : lGd nb j H dr ρ left lat) (ht : toldB dr j 99 = true) : lGd nb (j + 1) H dr (ud ρ j nb) left lat := by
  refine ⟨fun i hi => ?_, fun b hb => ?_⟩
  · by_cases e : i = j
    · subst e; rw [drR_ud, if_pos rfl, ud_eq]; exact ⟨Nat.le_refl _, ht⟩
    · rw [ud_ne e, drR_congr (ρ' := ρ) (fun k hk => ud_ne (by omega))]; exact h.1 i (by omega)
  · obtain ⟨h0, l, h1, h2⟩ := h.2 b hb
    refine ⟨?_, l, h1, ?_⟩
    · rw [drN, ud_eq, if_neg (by omega), drN_congr (ρ' := ρ) (fun i hi => ud_ne (by omega))]; exact h0
    · rw [hIn_s, ud_eq, if_neg (by omega), hIn_congr (ρ' := ρ) (fun i hi => ud_ne (by omega))]
      omega
theorem lGd.some {nb j c l : Nat} {H : Nat → Nat} {dr : Nat → Int32} {ρ : Nat → Nat} {left lat : Nat → Int32} (h : lGd nb j H dr ρ left lat) (hc : c < nb) (hl : left c = nI (l + 1)) (hl2 : l ≤ 10) (hb : ∀ b, b < nb → H b ≤ 8) (ht : toldB dr j (lat c) = true) : lGd nb (j + 1) H dr (ud ρ j c) (upd left c (nI l)) (upd lat c (nI j)) := by
  refine ⟨fun i hi => ?_, fun b hbn => ?_⟩
  · by_cases e : i = j
    · subst e
      rw [drR_ud, if_neg (by omega), ud_eq, ← (h.2 c hc).1]; exact ⟨by omega, ht⟩
    · rw [ud_ne e, drR_congr (ρ' := ρ) (fun k hk => ud_ne (by omega))]; exact h.1 i (by omega)
  · obtain ⟨h0, l', h1, h2⟩ := h.2 b hbn
    have := hb b hbn
    by_cases e : b = c
    · subst e
      rw [hl, nI_eq (by omega) (by omega)] at h1
      refine ⟨by unfold upd; rw [if_pos rfl, drN, ud_eq, if_pos rfl], l, by unfold upd; rw [if_pos rfl], ?_⟩
      rw [hIn_s, ud_eq, if_pos rfl, hIn_congr (ρ' := ρ) (fun i hi => ud_ne (by omega))]
      omega
    · refine ⟨by unfold upd; rw [if_neg e, drN, ud_eq, if_neg (Ne.symm e), drN_congr (ρ' := ρ) (fun i hi => ud_ne (by omega))]; exact h0, l', by unfold upd; rw [if_neg e]; exact h1, ?_⟩
      rw [hIn_s, ud_eq, if_neg (Ne.symm e), hIn_congr (ρ' := ρ) (fun i hi => ud_ne (by omega))]
      omega
def lPost (w : mW) (nb nw j m : Nat) (H : Nat → Nat) (dr : Nat → Int32) (fo : Bool) (ρ : Nat → Nat) (s : lSt) (left lat : Nat → Int32) : Option Value → mW → Prop := fun r w' => r = none ∧ ∃ row' fi' wy', (∀ i, i < j → row' i = nI (ρ i)) ∧ lX nw (enum (nb + 1) (lF nb nw H dr fo) m j ρ s) wy' fi' ∧ w' = xLW w row' fi' left lat wy'
theorem c_X2_layIn {d : Nat} {w : mW} {nb nw j m b l : Nat} {H : Nat → Nat} {dr : Nat → Int32} {fo : Bool} {ρ : Nat → Nat} {s : lSt} {row fi left lat : Nat → Int32} {wy : Int32} (hS0 : Shape w) (hnb : nb ≤ 5) (hnw : nw ≤ 5) (hb : b < nb) (hj : j < nw) (hl : left b = nI (l + 1)) (h9 : mC d kX2_lay [.ref 34, .ref 7, .int (nI (j + 1))] (xLW w (upd row j (nI b)) fi (upd left b (nI l)) (upd lat b (nI j)) wy) (lPost w nb nw (j + 1) m H dr fo (ud ρ j b) s (upd left b (nI l)) (upd lat b (nI j)))) : mC (d + 1) kX2_layIn [.ref 34, .ref 7, .int (nI j), .int (nI b)] (xLW w row fi left lat wy) (fun r w' => r = none ∧ ∃ row' fi' wy', (∀ i, i < j → row' i = nI (ρ i)) ∧ lX nw (enum (nb + 1) (lF nb nw H dr fo) m (j + 1) (ud ρ j b) s) wy' fi' ∧ w' = xLW w row' fi' left lat wy') := by
  have hS : Shape (xLW w row fi left lat wy) := xLW_S hS0
  refine mC.of (L := [_, _, _, _, _]) okX2_layIn 1 rfl rfl ?_
  refine x_aload_n (pc := 0) (i := 0) dX2_layIn_0 rfl rfl ?_
  refine x_getR (pc := 1) hS fX2_24 dX2_layIn_1 rfl rfl ?_
  refine x_iload_n (pc := 4) (i := 3) dX2_layIn_4 rfl rfl ?_
  refine x_aldN (pc := 5) hS dX2_layIn_5 rfl (by omega) (by decide) ?_
  rw [xLW_39 hS0]
  refine x_istore (pc := 6) (L' := [_, _, _, _, _]) dX2_layIn_6 (by decide) rfl ?_
  refine x_aload_n (pc := 8) (i := 0) dX2_layIn_8 rfl rfl ?_
  refine x_getR (pc := 9) hS fX2_21 dX2_layIn_9 rfl rfl ?_
  refine x_iload_n (pc := 12) (i := 3) dX2_layIn_12 rfl rfl ?_
  refine x_dup2 (pc := 13) dX2_layIn_13 rfl rfl ?_
  refine x_aldN (pc := 14) hS dX2_layIn_14 rfl (by omega) (by decide) ?_
  rw [xLW_38 hS0, hl]
  refine x_iconst (pc := 15) (v := 1) dX2_layIn_15 (by decide) ?_
  refine x_isub (pc := 16) dX2_layIn_16 ?_
  rw [nI_pred]
  refine x_astN (pc := 17) hS dX2_layIn_17 rfl (by omega) (by decide) (fun hS => ?_)
  rw [xLW_38 hS0, xLW_s38]
  have hS : Shape (xLW w row fi (upd left b (nI l)) lat wy) := xLW_S hS0
  refine x_aload_n (pc := 18) (i := 0) dX2_layIn_18 rfl rfl ?_
  refine x_getR (pc := 19) hS fX2_24 dX2_layIn_19 rfl rfl ?_
  refine x_iload_n (pc := 22) (i := 3) dX2_layIn_22 rfl rfl ?_
  refine x_iload_n (pc := 23) (i := 2) dX2_layIn_23 rfl rfl ?_
  refine x_astN (pc := 24) hS dX2_layIn_24 rfl (by omega) (by decide) (fun hS => ?_)
  rw [xLW_39 hS0, xLW_s39]
  have hS : Shape (xLW w row fi (upd left b (nI l)) (upd lat b (nI j)) wy) := xLW_S hS0
  refine x_aload_n (pc := 25) (i := 0) dX2_layIn_25 rfl rfl ?_
  refine x_getR (pc := 26) hS fX2_15 dX2_layIn_26 rfl rfl ?_
  refine x_iload_n (pc := 29) (i := 2) dX2_layIn_29 rfl rfl ?_
  refine x_iload_n (pc := 30) (i := 3) dX2_layIn_30 rfl rfl ?_
  refine x_astN (pc := 31) hS dX2_layIn_31 rfl (by omega) (by decide) (fun hS => ?_)
  rw [xLW_36 hS0, xLW_s36]
  have hS : Shape (xLW w (upd row j (nI b)) fi (upd left b (nI l)) (upd lat b (nI j)) wy) := xLW_S hS0
  refine x_aload_n (pc := 32) (i := 0) dX2_layIn_32 rfl rfl ?_
  refine x_aload_n (pc := 33) (i := 1) dX2_layIn_33 rfl rfl ?_
  refine x_iload_n (pc := 34) (i := 2) dX2_layIn_34 rfl rfl ?_
  refine x_iconst (pc := 35) (v := 1) dX2_layIn_35 (by decide) ?_
  refine x_iadd (pc := 36) dX2_layIn_36 ?_
  rw [nI_1]
  refine x_vs (pc := 37) (As := [_, _]) rfl hS lX2_50 dX2_layIn_37 rfl rfl (Nat.le_of_ble_eq_true rfl) h9 ?_
  rintro _ _ ⟨rfl, row', fi', wy', q1, q2, hq⟩
  obtain rfl := hq.symm
  have hS : Shape (xLW w row' fi' (upd left b (nI l)) (upd lat b (nI j)) wy') := xLW_S hS0
  refine x_pushV ?_
  refine x_aload_n (pc := 40) (i := 0) dX2_layIn_40 rfl rfl ?_
  refine x_getR (pc := 41) hS fX2_24 dX2_layIn_41 rfl rfl ?_
  refine x_iload_n (pc := 44) (i := 3) dX2_layIn_44 rfl rfl ?_
  refine x_iload (pc := 45) dX2_layIn_45 rfl ?_
  refine x_astN (pc := 47) hS dX2_layIn_47 rfl (by omega) (by decide) (fun hS => ?_)
  rw [xLW_39 hS0, xLW_s39, upd_upd, upd_self]
  have hS : Shape (xLW w row' fi' (upd left b (nI l)) lat wy') := xLW_S hS0
  refine x_aload_n (pc := 48) (i := 0) dX2_layIn_48 rfl rfl ?_
  refine x_getR (pc := 49) hS fX2_21 dX2_layIn_49 rfl rfl ?_
  refine x_iload_n (pc := 52) (i := 3) dX2_layIn_52 rfl rfl ?_
  refine x_dup2 (pc := 53) dX2_layIn_53 rfl rfl ?_
  refine x_aldN (pc := 54) hS dX2_layIn_54 rfl (by omega) (by decide) ?_
  rw [xLW_38 hS0, show upd left b (nI l) b = nI l from if_pos rfl]
  refine x_iconst (pc := 55) (v := 1) dX2_layIn_55 (by decide) ?_
  refine x_iadd (pc := 56) dX2_layIn_56 ?_
  rw [nI_1]
  refine x_astN (pc := 57) hS dX2_layIn_57 rfl (by omega) (by decide) (fun hS => ?_)
  rw [xLW_38 hS0, xLW_s38, upd_upd, ← hl, upd_self]
  refine x_rv (pc := 58) dX2_layIn_58 rfl ?_
  exact ⟨rfl, row', fi', wy', fun i hi => by rw [q1 i (by omega), ud_ne (by omega)], q2, rfl⟩
theorem lBad {nb j b l : Nat} {H : Nat → Nat} {dr : Nat → Int32} {ρ : Nat → Nat} {lat : Nat → Int32} (hb : b < nb) (h0 : lat b = nI (drN ρ b j)) (hl : l + hIn ρ b j = H b) (h : l = 0 ∨ ¬ toldB dr j (lat b) = true) : toldB dr j (drR nb (ud ρ j b) j) = false ∨ (b < nb ∧ H b ≤ hIn ρ b j) := by
  rcases h with h | h
  · exact Or.inr ⟨hb, by omega⟩
  · left
    rw [drR_ud, if_neg (by omega), ← h0]
    exact Bool.eq_false_iff.mpr h
set_option maxHeartbeats 4000000 in
theorem c_X2_lay {d : Nat} {w : mW} {nb nw : Nat} {H : Nat → Nat} {fo : Bool} (hS0 : Shape w) (tb : (fld w 7 0).toInt = (nb : Int)) (hnb : nb ≤ 5) (tw : (fld w 7 1).toInt = (nw : Int)) (hnw : nw ≤ 5) (hH : ∀ b, b < nb → H b ≤ 8) (hfo : fld w 34 6 = b2 (fo = true)) :
    ∀ (m j e : Nat) (ρ : Nat → Nat) (s : lSt) (row fi left lat : Nat → Int32) (wy : Int32), j + m = nw → d + 2 + 2 * m ≤ e → lGd nb j H (arr w 35) ρ left lat → (∀ i, i < j → row i = nI (ρ i)) → lX nw s wy fi → s.1 + (nb + 1) ^ m ≤ 10000 → mC e kX2_lay [.ref 34, .ref 7, .int (nI j)] (xLW w row fi left lat wy) (lPost w nb nw j m H (arr w 35) fo ρ s left lat) := by
  have ew := nI_ofT tw (by omega)
  have eb := nI_ofT tb (by omega)
  intro m
  induction m with
  | zero =>
    intro j e ρ s row fi left lat wy hj he hg hrow hx hs
    obtain rfl : j = nw := by omega
    obtain ⟨e, rfl⟩ : ∃ e', e = e' + 1 := ⟨e - 1, by omega⟩
    have hS : Shape (xLW w row fi left lat wy) := xLW_S hS0
    have hs0 : s.1 < 10000 := by rw [Nat.pow_zero] at hs; omega
    obtain ⟨hx1, hx2⟩ := hx
    subst hx1
    refine mC.of (L := [_, _, _, _]) okX2_lay 1 rfl rfl ?_
    refine x_aload_n (pc := 0) (i := 0) dX2_lay_0 rfl rfl ?_
    refine x_getI (pc := 1) hS fX2_46 dX2_lay_1 rfl rfl ?_
    rw [xLW_6, hfo]
    refine x_if_eq (pc := 4) (tgt := 15) dX2_lay_4 (by decide) (fun h4 => ?_) (fun h4 => ?_)
    · refine x_aload_n (pc := 15) (i := 1) dX2_lay_15 rfl rfl ?_
      refine x_iload_n (pc := 16) (i := 2) dX2_lay_16 rfl rfl ?_
      refine x_vs (pc := 17) (As := [_]) rfl hS lX2_54 dX2_lay_17 rfl rfl (Nat.le_of_ble_eq_true rfl) (c_X0_hasWalker_7 hS) ?_
      rintro _ _ ⟨rfl, hq⟩
      obtain rfl := hq.symm
      refine x_pushI ?_
      refine x_if_ne (pc := 20) (tgt := 32) dX2_lay_20 (by decide) (fun h20 => absurd h20 (by rw [b2_e0.mpr]; exact not_not_intro rfl; rw [xLW_f (by decide), ew]; exact fun z => absurd z.2 (Int32.not_lt.mpr (Int32.le_refl _)))) (fun h20 => ?_)
      refine x_aload_n (pc := 23) (i := 0) dX2_lay_23 rfl rfl ?_
      refine x_aload_n (pc := 24) (i := 1) dX2_lay_24 rfl rfl ?_
      refine x_getI (pc := 25) hS fX2_58 dX2_lay_25 rfl rfl ?_
      rw [xLW_f (by decide), ew]
      refine x_vs (pc := 28) (As := [_]) rfl hS lX2_61 dX2_lay_28 rfl rfl (Nat.le_of_ble_eq_true rfl) (c_X2_keep hS0 (by omega) (by omega)) ?_
      rintro _ _ ⟨rfl, hq⟩
      obtain rfl := hq.symm
      refine x_pushV ?_
      refine x_rv (pc := 31) dX2_lay_31 rfl ?_
      refine ⟨rfl, row, _, _, hrow, ?_, rfl⟩
      show lX j (lF nb j H (arr w 35) fo ρ s) _ _
      rw [lF_3 (by first | (have z9 := b2_e0.mp h4; exact fun z => z9 z.1) | (have z9 := h11; exact fun z => by rw [i_le, il_0, nI_toInt (by omega)] at z9; omega)) hg.leaf]
      refine ⟨rfl, Or.inr (fun i hi => ?_)⟩
      by_cases e0 : s.1 = 0
      · simp only [if_pos e0]; unfold tkI hTr; rw [if_pos hi, if_pos hi]; exact hrow i hi
      · simp only [if_neg e0]; exact (hx2.resolve_left e0) i hi
    · refine x_aload_n (pc := 7) (i := 0) dX2_lay_7 rfl rfl ?_
      refine x_getI (pc := 8) hS fX2_43 dX2_lay_8 rfl rfl ?_
      rw [xLW_5 hS0]
      refine x_if_le (pc := 11) (tgt := 15) dX2_lay_11 (by decide) (fun h11 => ?_) (fun h11 => ?_)
      · refine x_aload_n (pc := 15) (i := 1) dX2_lay_15 rfl rfl ?_
        refine x_iload_n (pc := 16) (i := 2) dX2_lay_16 rfl rfl ?_
        refine x_vs (pc := 17) (As := [_]) rfl hS lX2_54 dX2_lay_17 rfl rfl (Nat.le_of_ble_eq_true rfl) (c_X0_hasWalker_7 hS) ?_
        rintro _ _ ⟨rfl, hq⟩
        obtain rfl := hq.symm
        refine x_pushI ?_
        refine x_if_ne (pc := 20) (tgt := 32) dX2_lay_20 (by decide) (fun h20 => absurd h20 (by rw [b2_e0.mpr]; exact not_not_intro rfl; rw [xLW_f (by decide), ew]; exact fun z => absurd z.2 (Int32.not_lt.mpr (Int32.le_refl _)))) (fun h20 => ?_)
        refine x_aload_n (pc := 23) (i := 0) dX2_lay_23 rfl rfl ?_
        refine x_aload_n (pc := 24) (i := 1) dX2_lay_24 rfl rfl ?_
        refine x_getI (pc := 25) hS fX2_58 dX2_lay_25 rfl rfl ?_
        rw [xLW_f (by decide), ew]
        refine x_vs (pc := 28) (As := [_]) rfl hS lX2_61 dX2_lay_28 rfl rfl (Nat.le_of_ble_eq_true rfl) (c_X2_keep hS0 (by omega) (by omega)) ?_
        rintro _ _ ⟨rfl, hq⟩
        obtain rfl := hq.symm
        refine x_pushV ?_
        refine x_rv (pc := 31) dX2_lay_31 rfl ?_
        refine ⟨rfl, row, _, _, hrow, ?_, rfl⟩
        show lX j (lF nb j H (arr w 35) fo ρ s) _ _
        rw [lF_3 (by first | (have z9 := b2_e0.mp h4; exact fun z => z9 z.1) | (have z9 := h11; exact fun z => by rw [i_le, il_0, nI_toInt (by omega)] at z9; omega)) hg.leaf]
        refine ⟨rfl, Or.inr (fun i hi => ?_)⟩
        by_cases e0 : s.1 = 0
        · simp only [if_pos e0]; unfold tkI hTr; rw [if_pos hi, if_pos hi]; exact hrow i hi
        · simp only [if_neg e0]; exact (hx2.resolve_left e0) i hi
      · refine x_rv (pc := 14) dX2_lay_14 rfl ?_
        refine ⟨rfl, row, fi, _, hrow, ?_, rfl⟩
        show lX j (lF nb j H (arr w 35) fo ρ s) _ _
        rw [lF_1 (b2_n0.mp h4) (by rw [i_le, il_0, nI_toInt (by omega)] at h11; omega)]
        exact ⟨rfl, hx2⟩
  | succ m ih =>
    intro j e ρ s row fi left lat wy hj he hg hrow hx hs
    obtain ⟨e, rfl⟩ : ∃ e', e = e' + 1 + 1 := ⟨e - 2, by omega⟩
    have tj : (nI j).toInt = (j : Int) := nI_toInt (by omega)
    have hlat : ∀ b, b < nb → lat b = nI (drN ρ b j) := fun b hb => (hg.2 b hb).1
    have lp : ¬ (fo = true ∧ 0 < s.1) → ∀ (q b : Nat) (row fi : Nat → Int32) (wy : Int32), b + q = nb → (∀ i, i < j → row i = nI (ρ i)) → lX nw (foldN (fun c s => enum (nb + 1) (lF nb nw H (arr w 35) fo) m (j + 1) (ud ρ j c) s) b s) wy fi → mJ mX0 (e + 1 + 1) kX2_lay (lPost w nb nw j (m + 1) H (arr w 35) fo ρ s left lat) 34 [.ref 34, .ref 7, .int (nI j), .int (nI b)] [] (xLW w row fi left lat wy) := by
      intro hnf q
      have hcn : ∀ b, b ≤ nb → (foldN (fun c s => enum (nb + 1) (lF nb nw H (arr w 35) fo) m (j + 1) (ud ρ j c) s) b s).1 + (nb + 1) ^ m ≤ 10000 := by
        intro b hb
        have h1 := foldN_cnt (g := fun c s => enum (nb + 1) (lF nb nw H (arr w 35) fo) m (j + 1) (ud ρ j c) s) (K := (nb + 1) ^ m) (n := b) (s := s) (fun c _ s => enum_cnt)
        have h2 : (b + 1) * (nb + 1) ^ m ≤ (nb + 1) * (nb + 1) ^ m := Nat.mul_le_mul_right _ (by omega)
        rw [Nat.pow_succ, Nat.mul_comm] at hs
        rw [Nat.succ_mul] at h2
        omega
      induction q with
      | zero =>
        intro b row fi wy hb hrow hx
        obtain rfl : b = nb := by omega
        have hS : Shape (xLW w row fi left lat wy) := xLW_S hS0
        have hcb := hcn b (Nat.le_refl b)
        refine x_iload_n (pc := 34) (i := 3) dX2_lay_34 rfl rfl ?_
        refine x_aload_n (pc := 35) (i := 1) dX2_lay_35 rfl rfl ?_
        refine x_getI (pc := 36) hS fX2_33 dX2_lay_36 rfl rfl ?_
        rw [xLW_f (by decide), eb]
        refine x_icmp_ge (pc := 39) (tgt := 78) dX2_lay_39 (by decide) (fun h39 => ?_) (fun h39 => absurd h39 (by exact not_not_intro (Int32.le_refl _)))
        refine x_aload_n (pc := 78) (i := 0) dX2_lay_78 rfl rfl ?_
        refine x_iload_n (pc := 79) (i := 2) dX2_lay_79 rfl rfl ?_
        refine x_bipush (pc := 80) (v := 99) dX2_lay_80 (by decide) ?_
        refine x_vs (pc := 82) (As := [_, _]) rfl hS lX2_65 dX2_lay_82 rfl rfl (Nat.le_of_ble_eq_true rfl) (c_X2_isTold hS (by omega)) ?_
        rintro _ _ ⟨rfl, hq⟩
        obtain rfl := hq.symm
        refine x_pushI ?_
        rw [xLW_a (by decide) (by decide) (by decide) (by decide)]
        refine x_if_eq (pc := 85) (tgt := 106) dX2_lay_85 (by decide) (fun h85 => ?_) (fun h85 => ?_)
        · refine x_rv (pc := 106) dX2_lay_106 rfl ?_
          first | exact ⟨rfl, row', fi', wy', fun i hi => by rw [q1 i (by omega), ud_ne (by omega)], q2, rfl⟩ | (refine ⟨rfl, row, fi, wy, hrow, ?_, rfl⟩; show lX nw (enum (b + 1) (lF b nw H (arr w 35) fo) m (j + 1) (ud ρ j b) _) _ _; rw [lBad_id (n := nw) hj (Or.inl (by rw [drR_ud, if_pos rfl]; exact Bool.eq_false_iff.mpr (b2_e0.mp h85)))]; exact hx)
        · refine x_aload_n (pc := 88) (i := 0) dX2_lay_88 rfl rfl ?_
          refine x_getR (pc := 89) hS fX2_15 dX2_lay_89 rfl rfl ?_
          refine x_iload_n (pc := 92) (i := 2) dX2_lay_92 rfl rfl ?_
          refine x_aload_n (pc := 93) (i := 1) dX2_lay_93 rfl rfl ?_
          refine x_getI (pc := 94) hS fX2_33 dX2_lay_94 rfl rfl ?_
          rw [xLW_f (by decide), eb]
          refine x_astN (pc := 97) hS dX2_lay_97 rfl (by omega) (by decide) (fun hS => ?_)
          rw [xLW_36 hS0, xLW_s36]
          have hS : Shape (xLW w (upd row j (nI b)) fi left lat wy) := xLW_S hS0
          refine x_aload_n (pc := 98) (i := 0) dX2_lay_98 rfl rfl ?_
          refine x_aload_n (pc := 99) (i := 1) dX2_lay_99 rfl rfl ?_
          refine x_iload_n (pc := 100) (i := 2) dX2_lay_100 rfl rfl ?_
          refine x_iconst (pc := 101) (v := 1) dX2_lay_101 (by decide) ?_
          refine x_iadd (pc := 102) dX2_lay_102 ?_
          rw [nI_1]
          have h9 := ih (j + 1) (e + 1) (ud ρ j b) _ (upd row j (nI b)) fi left lat wy (by omega) (by omega) (hg.none (b2_n0.mp h85)) (row_ud hrow) hx hcb
          refine x_vs (pc := 103) (As := [_, _]) rfl hS lX2_50 dX2_lay_103 rfl rfl (Nat.le_of_ble_eq_true rfl) h9 ?_
          rintro _ _ ⟨rfl, row', fi', wy', q1, q2, hq⟩
          obtain rfl := hq.symm
          refine x_pushV ?_
          refine x_rv (pc := 106) dX2_lay_106 rfl ?_
          first | exact ⟨rfl, row', fi', wy', fun i hi => by rw [q1 i (by omega), ud_ne (by omega)], q2, rfl⟩ | (refine ⟨rfl, row, fi, wy, hrow, ?_, rfl⟩; show lX nw (enum (b + 1) (lF b nw H (arr w 35) fo) m (j + 1) (ud ρ j b) _) _ _; rw [lBad_id (n := nw) hj (Or.inl (by rw [drR_ud, if_pos rfl]; exact Bool.eq_false_iff.mpr (b2_e0.mp h85)))]; exact hx)
      | succ q ih2 =>
        intro b row fi wy hb hrow hx
        have hbn : b < nb := by omega
        have tbb : (nI b).toInt = (b : Int) := nI_toInt (by omega)
        have hS : Shape (xLW w row fi left lat wy) := xLW_S hS0
        obtain ⟨hl0, l, hl1, hl2⟩ := hg.2 b hbn
        have hH8 := hH b hbn
        have tl : (nI l).toInt = (l : Int) := nI_toInt (by omega)
        have hcb := hcn b (by omega)
        refine x_iload_n (pc := 34) (i := 3) dX2_lay_34 rfl rfl ?_
        refine x_aload_n (pc := 35) (i := 1) dX2_lay_35 rfl rfl ?_
        refine x_getI (pc := 36) hS fX2_33 dX2_lay_36 rfl rfl ?_
        rw [xLW_f (by decide), eb]
        refine x_icmp_ge (pc := 39) (tgt := 78) dX2_lay_39 (by decide) (fun h39 => absurd h39 (by rw [i_le, nI_toInt (by omega), nI_toInt (by omega)]; omega)) (fun h39 => ?_)
        refine x_aload_n (pc := 42) (i := 0) dX2_lay_42 rfl rfl ?_
        refine x_getR (pc := 43) hS fX2_21 dX2_lay_43 rfl rfl ?_
        refine x_iload_n (pc := 46) (i := 3) dX2_lay_46 rfl rfl ?_
        refine x_aldN (pc := 47) hS dX2_lay_47 rfl (by omega) (by decide) ?_
        rw [xLW_38 hS0, hl1]
        refine x_if_le (pc := 48) (tgt := 72) dX2_lay_48 (by decide) (fun h48 => ?_) (fun h48 => ?_)
        · refine x_iinc (pc := 72) (L' := [_, _, _, _]) dX2_lay_72 (by decide) rfl (by first | exact nI_inc _ | rfl) rfl ?_
          refine x_goto (pc := 75) (tgt := 34) dX2_lay_75 (by decide) ?_
          first | exact ih2 (b + 1) _ _ _ (by omega) q1 q2 | (refine ih2 (b + 1) _ _ _ (by omega) hrow ?_; show lX nw (enum (nb + 1) (lF nb nw H (arr w 35) fo) m (j + 1) (ud ρ j b) _) _ _; rw [lBad_id (n := nw) hj (lBad hbn hl0 hl2 (by first | exact Or.inl (show l = 0 by (try simp only [b2_e0, b2_n0, Decidable.not_not] at *) <;> (try simp only [i_lt, i_le, i_eq, not_and, not_or, ne_eq, il_0, il_1, il_2, il_3, il_4, il_5, il_6, il_7, il_8, il_9, il_10, il_14, il_15, il_19, il_20, il_24, il_30, il_31, il_44, il_48, il_49, il_52, il_57, il_59, il_60, il_70, il_99, il_100, il_103, il_108, il_114, il_m1, il_m2, il_m3, il_m4, il_m9, il_m10, il_m100] at *) <;> omega) | exact Or.inr (b2_e0.mp h62)))]; exact hx)
        · obtain ⟨l', rfl⟩ : ∃ l', l = l' + 1 := ⟨l - 1, by (try simp only [b2_e0, b2_n0, Decidable.not_not] at *) <;> (try simp only [i_lt, i_le, i_eq, not_and, not_or, ne_eq, il_0, il_1, il_2, il_3, il_4, il_5, il_6, il_7, il_8, il_9, il_10, il_14, il_15, il_19, il_20, il_24, il_30, il_31, il_44, il_48, il_49, il_52, il_57, il_59, il_60, il_70, il_99, il_100, il_103, il_108, il_114, il_m1, il_m2, il_m3, il_m4, il_m9, il_m10, il_m100] at *) <;> omega⟩
          refine x_aload_n (pc := 51) (i := 0) dX2_lay_51 rfl rfl ?_
          refine x_iload_n (pc := 52) (i := 2) dX2_lay_52 rfl rfl ?_
          refine x_aload_n (pc := 53) (i := 0) dX2_lay_53 rfl rfl ?_
          refine x_getR (pc := 54) hS fX2_24 dX2_lay_54 rfl rfl ?_
          refine x_iload_n (pc := 57) (i := 3) dX2_lay_57 rfl rfl ?_
          refine x_aldN (pc := 58) hS dX2_lay_58 rfl (by omega) (by decide) ?_
          rw [xLW_39 hS0]
          refine x_vs (pc := 59) (As := [_, _]) rfl hS lX2_65 dX2_lay_59 rfl rfl (Nat.le_of_ble_eq_true rfl) (c_X2_isTold hS (by omega)) ?_
          rintro _ _ ⟨rfl, hq⟩
          obtain rfl := hq.symm
          refine x_pushI ?_
          rw [xLW_a (by decide) (by decide) (by decide) (by decide)]
          refine x_if_eq (pc := 62) (tgt := 72) dX2_lay_62 (by decide) (fun h62 => ?_) (fun h62 => ?_)
          · refine x_iinc (pc := 72) (L' := [_, _, _, _]) dX2_lay_72 (by decide) rfl (by first | exact nI_inc _ | rfl) rfl ?_
            refine x_goto (pc := 75) (tgt := 34) dX2_lay_75 (by decide) ?_
            first | exact ih2 (b + 1) _ _ _ (by omega) q1 q2 | (refine ih2 (b + 1) _ _ _ (by omega) hrow ?_; show lX nw (enum (nb + 1) (lF nb nw H (arr w 35) fo) m (j + 1) (ud ρ j b) _) _ _; rw [lBad_id (n := nw) hj (lBad hbn hl0 hl2 (by first | exact Or.inl (show l = 0 by (try simp only [b2_e0, b2_n0, Decidable.not_not] at *) <;> (try simp only [i_lt, i_le, i_eq, not_and, not_or, ne_eq, il_0, il_1, il_2, il_3, il_4, il_5, il_6, il_7, il_8, il_9, il_10, il_14, il_15, il_19, il_20, il_24, il_30, il_31, il_44, il_48, il_49, il_52, il_57, il_59, il_60, il_70, il_99, il_100, il_103, il_108, il_114, il_m1, il_m2, il_m3, il_m4, il_m9, il_m10, il_m100] at *) <;> omega) | exact Or.inr (b2_e0.mp h62)))]; exact hx)
          · have h9 := ih (j + 1) e (ud ρ j b) _ (upd row j (nI b)) fi (upd left b (nI l')) (upd lat b (nI j)) wy (by omega) (by omega) (hg.some hbn hl1 (by omega) hH (b2_n0.mp h62)) (row_ud hrow) hx hcb
            have h8 := c_X2_layIn (b := b) (l := l') (ρ := ρ) (row := row) (left := left) (lat := lat) hS0 hnb hnw hbn (by omega) hl1 h9
            refine x_aload_n (pc := 65) (i := 0) dX2_lay_65 rfl rfl ?_
            refine x_aload_n (pc := 66) (i := 1) dX2_lay_66 rfl rfl ?_
            refine x_iload_n (pc := 67) (i := 2) dX2_lay_67 rfl rfl ?_
            refine x_iload_n (pc := 68) (i := 3) dX2_lay_68 rfl rfl ?_
            refine x_vs (pc := 69) (As := [_, _, _]) rfl hS lX2_69 dX2_lay_69 rfl rfl (Nat.le_of_ble_eq_true rfl) h8 ?_
            rintro _ _ ⟨rfl, row', fi', wy', q1, q2, hq⟩
            obtain rfl := hq.symm
            refine x_pushV ?_
            refine x_iinc (pc := 72) (L' := [_, _, _, _]) dX2_lay_72 (by decide) rfl (by first | exact nI_inc _ | rfl) rfl ?_
            refine x_goto (pc := 75) (tgt := 34) dX2_lay_75 (by decide) ?_
            first | exact ih2 (b + 1) _ _ _ (by omega) q1 q2 | (refine ih2 (b + 1) _ _ _ (by omega) hrow ?_; show lX nw (enum (nb + 1) (lF nb nw H (arr w 35) fo) m (j + 1) (ud ρ j b) _) _ _; rw [lBad_id (n := nw) hj (lBad hbn hl0 hl2 (by first | exact Or.inl (show l = 0 by (try simp only [b2_e0, b2_n0, Decidable.not_not] at *) <;> (try simp only [i_lt, i_le, i_eq, not_and, not_or, ne_eq, il_0, il_1, il_2, il_3, il_4, il_5, il_6, il_7, il_8, il_9, il_10, il_14, il_15, il_19, il_20, il_24, il_30, il_31, il_44, il_48, il_49, il_52, il_57, il_59, il_60, il_70, il_99, il_100, il_103, il_108, il_114, il_m1, il_m2, il_m3, il_m4, il_m9, il_m10, il_m100] at *) <;> omega) | exact Or.inr (b2_e0.mp h62)))]; exact hx)
    have hS : Shape (xLW w row fi left lat wy) := xLW_S hS0
    have hs0 : s.1 < 10000 := by have : 0 < (nb + 1) ^ (m + 1) := Nat.pow_pos (by omega); omega
    obtain ⟨hx1, hx2⟩ := hx
    subst hx1
    refine mC.of (L := [_, _, _, _]) okX2_lay 1 rfl rfl ?_
    refine x_aload_n (pc := 0) (i := 0) dX2_lay_0 rfl rfl ?_
    refine x_getI (pc := 1) hS fX2_46 dX2_lay_1 rfl rfl ?_
    rw [xLW_6, hfo]
    refine x_if_eq (pc := 4) (tgt := 15) dX2_lay_4 (by decide) (fun h4 => ?_) (fun h4 => ?_)
    · refine x_aload_n (pc := 15) (i := 1) dX2_lay_15 rfl rfl ?_
      refine x_iload_n (pc := 16) (i := 2) dX2_lay_16 rfl rfl ?_
      refine x_vs (pc := 17) (As := [_]) rfl hS lX2_54 dX2_lay_17 rfl rfl (Nat.le_of_ble_eq_true rfl) (c_X0_hasWalker_7 hS) ?_
      rintro _ _ ⟨rfl, hq⟩
      obtain rfl := hq.symm
      refine x_pushI ?_
      refine x_if_ne (pc := 20) (tgt := 32) dX2_lay_20 (by decide) (fun h20 => ?_) (fun h20 => absurd h20 (by rw [b2_n0, xLW_f (by decide), ew]; exact ⟨by (try simp only [b2_e0, b2_n0, Decidable.not_not] at *) <;> (try simp only [i_lt, i_le, i_eq, not_and, not_or, ne_eq, il_0, il_1, il_2, il_3, il_4, il_5, il_6, il_7, il_8, il_9, il_10, il_14, il_15, il_19, il_20, il_24, il_30, il_31, il_44, il_48, il_49, il_52, il_57, il_59, il_60, il_70, il_99, il_100, il_103, il_108, il_114, il_m1, il_m2, il_m3, il_m4, il_m9, il_m10, il_m100] at *) <;> omega, by rw [i_lt, tj, nI_toInt (by omega)]; omega⟩))
      refine x_iconst (pc := 32) (v := 0) dX2_lay_32 (by decide) ?_
      refine x_istore_n (pc := 33) (i := 3) (L' := [_, _, _, _]) dX2_lay_33 rfl (by decide) rfl ?_
      exact lp (by first | (have z9 := b2_e0.mp h4; exact fun z => z9 z.1) | (have z9 := h11; exact fun z => by rw [i_le, il_0, nI_toInt (by omega)] at z9; omega)) nb 0 row fi _ (by omega) hrow ⟨rfl, hx2⟩
    · refine x_aload_n (pc := 7) (i := 0) dX2_lay_7 rfl rfl ?_
      refine x_getI (pc := 8) hS fX2_43 dX2_lay_8 rfl rfl ?_
      rw [xLW_5 hS0]
      refine x_if_le (pc := 11) (tgt := 15) dX2_lay_11 (by decide) (fun h11 => ?_) (fun h11 => ?_)
      · refine x_aload_n (pc := 15) (i := 1) dX2_lay_15 rfl rfl ?_
        refine x_iload_n (pc := 16) (i := 2) dX2_lay_16 rfl rfl ?_
        refine x_vs (pc := 17) (As := [_]) rfl hS lX2_54 dX2_lay_17 rfl rfl (Nat.le_of_ble_eq_true rfl) (c_X0_hasWalker_7 hS) ?_
        rintro _ _ ⟨rfl, hq⟩
        obtain rfl := hq.symm
        refine x_pushI ?_
        refine x_if_ne (pc := 20) (tgt := 32) dX2_lay_20 (by decide) (fun h20 => ?_) (fun h20 => absurd h20 (by rw [b2_n0, xLW_f (by decide), ew]; exact ⟨by (try simp only [b2_e0, b2_n0, Decidable.not_not] at *) <;> (try simp only [i_lt, i_le, i_eq, not_and, not_or, ne_eq, il_0, il_1, il_2, il_3, il_4, il_5, il_6, il_7, il_8, il_9, il_10, il_14, il_15, il_19, il_20, il_24, il_30, il_31, il_44, il_48, il_49, il_52, il_57, il_59, il_60, il_70, il_99, il_100, il_103, il_108, il_114, il_m1, il_m2, il_m3, il_m4, il_m9, il_m10, il_m100] at *) <;> omega, by rw [i_lt, tj, nI_toInt (by omega)]; omega⟩))
        refine x_iconst (pc := 32) (v := 0) dX2_lay_32 (by decide) ?_
        refine x_istore_n (pc := 33) (i := 3) (L' := [_, _, _, _]) dX2_lay_33 rfl (by decide) rfl ?_
        exact lp (by first | (have z9 := b2_e0.mp h4; exact fun z => z9 z.1) | (have z9 := h11; exact fun z => by rw [i_le, il_0, nI_toInt (by omega)] at z9; omega)) nb 0 row fi _ (by omega) hrow ⟨rfl, hx2⟩
      · refine x_rv (pc := 14) dX2_lay_14 rfl ?_
        refine ⟨rfl, row, fi, _, hrow, ?_, rfl⟩
        rw [enum_id (n := nw) hj (fun ρ' _ _ => lF_1 (b2_n0.mp h4) (by rw [i_le, il_0, nI_toInt (by omega)] at h11; omega))]
        exact ⟨rfl, hx2⟩

