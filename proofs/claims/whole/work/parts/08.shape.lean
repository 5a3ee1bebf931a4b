/-! THE SHAPE: 0 BarrowNights; 1 Sheets (2 lanes, 3 sizes, 4 cells); 5 Text (6 codes); 7 now (8 kind .. 16 cold); 17 Season; 18 then (19 .. 27); 28, 29; 30 Housing (31 row, 32 best, 33 left); 34 Lying (35 dreams, 36 row, 37 first, 38 left, 39 latest); 40 Readings (41, 42, 43); 44 the reference (45 ..) -/
def mShp : List (Nat ⊕ (Nat × List (Option Nat))) := [.inr (7, [some 1, some 5, some 7, some 17, some 30, some 34, some 40, none, none]), .inr (5, [some 2, some 3, some 4]), .inl 4, .inl 4, .inl 240, .inr (6, [some 6, none, none, none]), .inl 60, .inr (0, [none, none, none, some 8, some 9, some 10, some 11, some 12, some 13, some 14, some 15, some 16]), .inl 5, .inl 5, .inl 5, .inl 5, .inl 5, .inl 5, .inl 5, .inl 5, .inl 5, .inr (4, [some 18, some 28, some 29, none, none, none]), .inr (0, [none, none, none, some 19, some 20, some 21, some 22, some 23, some 24, some 25, some 26, some 27]), .inl 5, .inl 5, .inl 5, .inl 5, .inl 5, .inl 5, .inl 5, .inl 5, .inl 5, .inl 20, .inl 20, .inr (1, [some 31, some 32, some 33, none, none]), .inl 5, .inl 5, .inl 5, .inr (2, [some 35, some 36, some 37, some 38, some 39, none, none]), .inl 5, .inl 5, .inl 5, .inl 5, .inl 5, .inr (3, [some 41, some 42, some 43, none]), .inl 8, .inl 8, .inl 8, .inr (8, [none, none, some 45, some 46, some 47, none, none, none, some 48, some 49, some 50, some 51, some 52, some 53, some 54, some 55, some 56, none, none, none, some 57, some 58, some 59, some 60, some 61, some 62, none, some 63, some 64, none, none, some 65, none, some 66, some 67, some 68]), .inl 4, .inl 4, .inl 240, .inl 5, .inl 5, .inl 5, .inl 5, .inl 5, .inl 5, .inl 5, .inl 5, .inl 5, .inl 20, .inl 15, .inl 5, .inl 5, .inl 5, .inl 5, .inl 5, .inl 5, .inl 5, .inl 8, .inl 8, .inl 8]
def mShF : List (Option Nat) → List Value → Prop
  | [], [] => True
  | some r :: fs, v :: vs => v = .ref r ∧ mShF fs vs
  | none :: fs, v :: vs => (∃ x, v = .int x) ∧ mShF fs vs
  | _, _ => False
def mShE : (Nat ⊕ (Nat × List (Option Nat))) → mE → Prop
  | .inl n, .inl a => a.1 = n
  | .inr s, .inr o => o.1 = s.1 ∧ mShF s.2 o.2
  | _, _ => False
def Shape (w : mW) : Prop := ∀ (i : Nat) (s : Nat ⊕ (Nat × List (Option Nat))), mShp[i]? = some s → mShE s (w i)
def fld (w : mW) (a k : Nat) : Int32 := match w a with
  | .inr o => (match o.2[k]? with
    | some (.int x) => x
    | _ => 0)
  | _ => 0
def arr (w : mW) (a : Nat) : Nat → Int32 := match w a with
  | .inl p => p.2
  | _ => fun _ => 0
def setF (w : mW) (a k : Nat) (x : Int32) : mW := fun j => if j = a then (match w a with
    | .inr o => .inr (o.1, o.2.set k (.int x))
    | e => e) else w j
def setA (w : mW) (a : Nat) (f : Nat → Int32) : mW := fun j => if j = a then (match w a with
    | .inl p => .inl (p.1, f)
    | e => e) else w j
theorem mShF_ref : ∀ {fs : List (Option Nat)} {vs : List Value} {k b : Nat}, mShF fs vs → fs[k]? = some (some b) → vs[k]? = some (.ref b)
  | [], _, k, b, _, h => by simp at h
  | some r :: fs, v :: vs, 0, b, hs, h => by simp at h; subst h; simp [hs.1]
  | some r :: fs, v :: vs, k + 1, b, hs, h => by simpa using mShF_ref hs.2 (by simpa using h)
  | none :: fs, v :: vs, 0, b, hs, h => by simp at h
  | none :: fs, v :: vs, k + 1, b, hs, h => by simpa using mShF_ref hs.2 (by simpa using h)
  | some r :: fs, [], k, b, hs, h => by exact absurd hs (by simp [mShF])
  | none :: fs, [], k, b, hs, h => by exact absurd hs (by simp [mShF])
theorem mShF_int : ∀ {fs : List (Option Nat)} {vs : List Value} {k : Nat}, mShF fs vs → fs[k]? = some none → ∃ x, vs[k]? = some (.int x)
  | [], _, k, _, h => by simp at h
  | some r :: fs, v :: vs, 0, hs, h => by simp at h
  | some r :: fs, v :: vs, k + 1, hs, h => by simpa using mShF_int hs.2 (by simpa using h)
  | none :: fs, v :: vs, 0, hs, h => by obtain ⟨x, hx⟩ := hs.1; exact ⟨x, by simp [hx]⟩
  | none :: fs, v :: vs, k + 1, hs, h => by simpa using mShF_int hs.2 (by simpa using h)
  | some r :: fs, [], k, hs, h => by exact absurd hs (by simp [mShF])
  | none :: fs, [], k, hs, h => by exact absurd hs (by simp [mShF])
theorem mShF_set : ∀ {fs : List (Option Nat)} {vs : List Value} {k : Nat} (x : Int32), mShF fs vs → fs[k]? = some none → mShF fs (vs.set k (.int x))
  | [], _, k, _, _, h => by simp at h
  | some r :: fs, v :: vs, 0, x, hs, h => by simp at h
  | some r :: fs, v :: vs, k + 1, x, hs, h => ⟨hs.1, mShF_set x hs.2 (by simpa using h)⟩
  | none :: fs, v :: vs, 0, x, hs, h => ⟨⟨x, rfl⟩, hs.2⟩
  | none :: fs, v :: vs, k + 1, x, hs, h => ⟨hs.1, mShF_set x hs.2 (by simpa using h)⟩
  | some r :: fs, [], k, x, hs, h => by exact absurd hs (by simp [mShF])
  | none :: fs, [], k, x, hs, h => by exact absurd hs (by simp [mShF])
theorem Shape.obj {w : mW} (h : Shape w) {a ci : Nat} {fs : List (Option Nat)} (hs : mShp[a]? = some (.inr (ci, fs))) : ∃ vs, w a = .inr (ci, vs) ∧ mShF fs vs := by
  have h1 := h a _ hs
  cases hw : w a with
  | inl p => rw [hw] at h1; exact absurd h1 (by simp [mShE])
  | inr o =>
    rw [hw] at h1
    obtain ⟨o1, o2⟩ := o
    obtain ⟨e1, e2⟩ := h1
    simp only at e1
    subst e1
    exact ⟨o2, rfl, e2⟩
theorem Shape.ar {w : mW} (h : Shape w) {a n : Nat} (hs : mShp[a]? = some (.inl n)) : w a = .inl (n, arr w a) := by
  have h1 := h a _ hs
  cases hw : w a with
  | inr o => rw [hw] at h1; exact absurd h1 (by simp [mShE])
  | inl p =>
    rw [hw] at h1
    obtain ⟨p1, p2⟩ := p
    have e1 : p1 = n := h1
    subst e1
    simp [arr, hw]
theorem Shape.stA {w : mW} (h : Shape w) (a : Nat) (f : Nat → Int32) : Shape (setA w a f) := by
  intro i s hi
  have h1 := h i s hi
  unfold setA
  by_cases hia : i = a
  · subst hia
    simp only [if_true]
    cases hw : w i with
    | inl p => rw [hw] at h1; cases s with
      | inl n => exact h1
      | inr s => exact absurd h1 (by simp [mShE])
    | inr o => rw [hw] at h1; exact h1
  · simp only [if_neg hia]; exact h1
theorem Shape.stF {w : mW} (h : Shape w) {a ci k : Nat} {fs : List (Option Nat)} (hs : mShp[a]? = some (.inr (ci, fs))) (hk : fs[k]? = some none) (x : Int32) : Shape (setF w a k x) := by
  intro i s hi
  unfold setF
  by_cases hia : i = a
  · subst hia
    simp only [if_true]
    obtain ⟨vs, hw, hv⟩ := h.obj hs
    rw [hw]
    cases hs.symm.trans hi
    exact ⟨rfl, mShF_set x hv hk⟩
  · simp only [if_neg hia]; exact h i s hi
theorem fld_setF {w : mW} (h : Shape w) {a ci k : Nat} {fs : List (Option Nat)} (hs : mShp[a]? = some (.inr (ci, fs))) (hk : fs[k]? = some none) (x : Int32) : fld (setF w a k x) a k = x := by
  obtain ⟨vs, hw, hv⟩ := h.obj hs
  obtain ⟨y, hy⟩ := mShF_int hv hk
  have hl : k < vs.length := (List.getElem?_eq_some_iff.mp hy).1
  simp [fld, setF, hw, hl]
theorem fld_setF_k {w : mW} {a k j : Nat} (hj : j ≠ k) (x : Int32) : fld (setF w a k x) a j = fld w a j := by
  unfold fld setF
  simp only [if_true]
  cases hw : w a with
  | inl p => rfl
  | inr o => simp only [List.getElem?_set_ne (Ne.symm hj)]
theorem fld_setF_a {w : mW} {a b k j : Nat} (hb : b ≠ a) (x : Int32) : fld (setF w a k x) b j = fld w b j := by
  unfold fld setF
  simp only [if_neg hb]
theorem arr_setF {w : mW} {a b k : Nat} (x : Int32) : arr (setF w a k x) b = arr w b := by
  unfold arr setF
  by_cases hb : b = a
  · subst hb
    simp only [if_true]
    cases hw : w b <;> rfl
  · simp only [if_neg hb]
theorem arr_setA {w : mW} (h : Shape w) {a n : Nat} (hs : mShp[a]? = some (.inl n)) (f : Nat → Int32) : arr (setA w a f) a = f := by
  have hw := h.ar hs
  cases hq : w a with
  | inl p => simp [arr, setA, hq]
  | inr o => rw [hq] at hw; cases hw
theorem arr_setA_a {w : mW} {a b : Nat} (hb : b ≠ a) (f : Nat → Int32) : arr (setA w a f) b = arr w b := by
  unfold arr setA
  simp only [if_neg hb]
theorem fld_setA {w : mW} {a b k : Nat} (f : Nat → Int32) : fld (setA w a f) b k = fld w b k := by
  unfold fld setA
  by_cases hb : b = a
  · subst hb
    simp only [if_true]
    cases hw : w b <;> rfl
  · simp only [if_neg hb]
theorem mLt {a : Nat} {s : Nat ⊕ (Nat × List (Option Nat))} (h : mShp[a]? = some s) : a < mCells := (List.getElem?_eq_some_iff.mp h).1
theorem x_getI {X : mX} {d : Nat} {M : mM} {Q : Option Value → mW → Prop} {pc : Nat} {L st : List Value} {w : mW} {idx ci k a : Nat} {fin : Bool} {ty : FieldType} {fs : List (Option Nat)} (hS : Shape w) (hs : mSite M.1.cls idx ci k fin ty) (hd : decode M.2.1 pc = .ok (.getfield idx, 3)) (ha : mShp[a]? = some (.inr (ci, fs))) (hk : fs[k]? = some none) (kk : mJ X d M Q (pc + 3) L (.int (fld w a k) :: st) w) : mJ X d M Q pc L (.ref a :: st) w := by
  obtain ⟨vs, hw, hv⟩ := hS.obj ha
  obtain ⟨y, hy⟩ := mShF_int hv hk
  have e : fld w a k = y := by simp [fld, hw, hy]
  rw [e] at kk
  exact x_get hs hd (mLt ha) hw hy kk
theorem x_getR {X : mX} {d : Nat} {M : mM} {Q : Option Value → mW → Prop} {pc : Nat} {L st : List Value} {w : mW} {idx ci k a b : Nat} {fin : Bool} {ty : FieldType} {fs : List (Option Nat)} (hS : Shape w) (hs : mSite M.1.cls idx ci k fin ty) (hd : decode M.2.1 pc = .ok (.getfield idx, 3)) (ha : mShp[a]? = some (.inr (ci, fs))) (hk : fs[k]? = some (some b)) (kk : mJ X d M Q (pc + 3) L (.ref b :: st) w) : mJ X d M Q pc L (.ref a :: st) w := by
  obtain ⟨vs, hw, hv⟩ := hS.obj ha
  exact x_get hs hd (mLt ha) hw (mShF_ref hv hk) kk
theorem x_putI {X : mX} {d : Nat} {M : mM} {Q : Option Value → mW → Prop} {pc : Nat} {L st : List Value} {w : mW} {idx ci k a : Nat} {ty : FieldType} {fs : List (Option Nat)} {x : Int32} (hS : Shape w) (hs : mSite M.1.cls idx ci k false ty) (hd : decode M.2.1 pc = .ok (.putfield idx, 3)) (ha : mShp[a]? = some (.inr (ci, fs))) (hk : fs[k]? = some none) (hn : narrow ty (.int x) = .int x) (hf : fits ty (.int x) = true) (kk : Shape (setF w a k x) → mJ X d M Q (pc + 3) L st (setF w a k x)) : mJ X d M Q pc L (.int x :: .ref a :: st) w := by
  obtain ⟨vs, hw, hv⟩ := hS.obj ha
  obtain ⟨y, hy⟩ := mShF_int hv hk
  refine x_put hs hd (mLt ha) hw (List.getElem?_eq_some_iff.mp hy).1 hn hf ?_
  have e : mUp w a (.inr (ci, vs.set k (.int x))) = setF w a k x := by
    funext j
    simp [mUp, setF, hw]
  rw [e]
  exact kk (hS.stF ha hk x)
theorem x_ald {X : mX} {d : Nat} {M : mM} {Q : Option Value → mW → Prop} {pc : Nat} {L st : List Value} {w : mW} {a n : Nat} {i : Int32} (hS : Shape w) (hd : decode M.2.1 pc = .ok (.iaload, 1)) (ha : mShp[a]? = some (.inl n)) (hi : vp_in i n) (kk : mJ X d M Q (pc + 1) L (.int (arr w a i.toNatClampNeg) :: st) w) : mJ X d M Q pc L (.int i :: .ref a :: st) w :=
  x_iald hd (mLt ha) (hS.ar ha) hi kk
theorem x_ast {X : mX} {d : Nat} {M : mM} {Q : Option Value → mW → Prop} {pc : Nat} {L st : List Value} {w : mW} {a n : Nat} {i x : Int32} (hS : Shape w) (hd : decode M.2.1 pc = .ok (.iastore, 1)) (ha : mShp[a]? = some (.inl n)) (hi : vp_in i n) (kk : Shape (setA w a (upd (arr w a) i.toNatClampNeg x)) → mJ X d M Q (pc + 1) L st (setA w a (upd (arr w a) i.toNatClampNeg x))) : mJ X d M Q pc L (.int x :: .int i :: .ref a :: st) w := by
  refine x_iast hd (mLt ha) (hS.ar ha) hi ?_
  have hw := hS.ar ha
  have e : mUp w a (.inl (n, upd (arr w a) i.toNatClampNeg x)) = setA w a (upd (arr w a) i.toNatClampNeg x) := by
    funext j
    by_cases hj : j = a
    · subst hj; simp only [mUp, setA, if_true]; rw [hw]
    · simp only [mUp, setA, if_neg hj]
  rw [e]
  exact kk (hS.stA a _)
theorem x_virtS {X : mX} {d : Nat} {M : mM} {Q : Option Value → mW → Prop} {pc : Nat} {L st : List Value} {w : mW} {idx ci n a : Nat} {M' : mM} {As : List Value} {fs : List (Option Nat)} {Q' : Option Value → mW → Prop} (hS : Shape w) (hs : mVirt M.1.cls idx M' ci n) (hd : decode M.2.1 pc = .ok (.invokevirtual idx, 3)) (ha : mShp[a]? = some (.inr (ci, fs))) (hn : As.length = n) (hr : (st.map fun v => v.category).sum ≤ 8) {st0 : List Value} (hst : As.reverse ++ .ref a :: st = st0) (hM : mC d M' (.ref a :: As) w Q') (kk : ∀ v w', Q' v w' → mJ X (d + 1) M Q (pc + 3) L (v.toList ++ st) w') : mJ X (d + 1) M Q pc L st0 w := by
  obtain ⟨vs, hw, hv⟩ := hS.obj ha
  exact x_virt hs hd (mLt ha) hw hn hr hst hM kk
