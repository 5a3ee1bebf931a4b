/-! THE SMALL MACHINE. The world's cells are numbered 0 .. 68; a reference is its cell's number; mC: a method's contract, mJ: the machine at a place of a method. -/
abbrev mE : Type := (Nat × (Nat → Int32)) ⊕ (Nat × List Value)
abbrev mW : Type := Nat → mE
abbrev mM : Type := MethodName × ByteArray × Nat × Option FieldType
def mUp (w : mW) (i : Nat) (e : mE) : mW := fun j => if j = i then e else w j
def mTr (as : Nat → Nat) : Value → Value
  | .ref i => .ref (as i)
  | v => v
def mTE (cy : ClassId) (as : Nat → Nat) : mE → va_E
  | .inl a => .inl (cy, a.1, .inl a.2)
  | .inr o => .inr (o.1, o.2.map (mTr as))
abbrev mCells : Nat := 69
def mWs (cy : ClassId) (as : Nat → Nat) (w : mW) : va_W := (List.range mCells).map (fun i => (as i, mTE cy as (w i)))
theorem mWs_len (cy : ClassId) (as : Nat → Nat) (w : mW) : (mWs cy as w).length = mCells := by simp [mWs]
theorem mWs_get (cy : ClassId) (as : Nat → Nat) (w : mW) {i : Nat} (h : i < mCells) : (mWs cy as w)[i]? = some (as i, mTE cy as (w i)) := by
  simp [mWs, List.getElem?_map, List.getElem?_range h]
theorem mWs_set (cy : ClassId) (as : Nat → Nat) (w : mW) {i : Nat} (h : i < mCells) (e : mE) : (mWs cy as w).set i (as i, mTE cy as e) = mWs cy as (mUp w i e) := by
  apply List.ext_getElem?
  intro j
  by_cases hj : j < mCells
  · by_cases hij : i = j
    · subst hij
      rw [mWs_get _ _ _ hj, List.getElem?_set_self (by rw [mWs_len]; exact hj)]
      simp [mUp]
    · rw [List.getElem?_set_ne hij, mWs_get _ _ _ hj, mWs_get _ _ _ hj]
      simp [mUp, Ne.symm hij]
  · rw [List.getElem?_eq_none (by rw [List.length_set, mWs_len]; omega), List.getElem?_eq_none (by rw [mWs_len]; omega)]
theorem mTr_cat (as : Nat → Nat) (v : Value) : (mTr as v).category = v.category := by cases v <;> rfl
-- words
def mTT : List Cond := lw_tbl.filter goodWord
theorem mTT_mem {w : Cond} (h : w ∈ lw_tbl) (g : goodWord w = true) : w ∈ mTT := List.mem_filter.mpr ⟨h, g⟩
def mNest : Cond → Bool
  | .fieldLinkNest .. => true
  | .methodLinkNest .. => true
  | _ => false
def mNW (U : State) : Prop := ∀ w ∈ lw_tbl, mNest w = true → va_Nw w U
theorem mNW.warm {s U : State} (hW : s.WarmedH U.vm) (h : mNW s) : mNW U := by
  intro w hw hn
  cases w <;> first | exact va_Nw.warmF hW (h _ hw hn) | exact va_Nw.warmM hW (h _ hw hn) | cases hn
theorem mNW.same {u U : State} (hv : u.vm = U.vm) (h : mNW u) : mNW U := by
  intro w hw hn
  cases w <;> first | exact va_Nw.same rfl hv (h _ hw hn) | cases hn
def mWd (M : mM) : List Cond := Cond.code M.1 M.2.1 M.2.2.1 M.2.2.2 :: mTT
def mOK (M : mM) : Prop := Cond.code M.1 M.2.1 M.2.2.1 M.2.2.2 ∈ lw_tbl ∧ plainName M.1.cls = true ∧ Cond.initialized M.1.cls ∈ lw_tbl ∧ (M.1.cls ≠ "java/lang/invoke/MethodHandle" ∧ M.1.cls ≠ "java/lang/invoke/VarHandle") ∧ M.2.2.1 ≤ 20
theorem mGood {M' : mM} (h : mOK M') : GoodIn mTT (mWd M') := by
  intro w hw
  rcases List.mem_cons.mp hw with rfl | hw
  · exact ⟨mTT_mem h.1 rfl, Or.inl rfl⟩
  · exact ⟨hw, good_of_word (List.mem_filter.mp hw).2⟩
def mRm (d : Nat) : Room := { frames := d, cells := 0, slots := 0, locals := 40 * d }
-- contracts
def mPre (D : va_G) (cy : ClassId) (as : Nat → Nat) (sz : Nat) (w : mW) (U : State) : Prop := U.heap.size = sz ∧ va_P D vwCl (mWs cy as w) U.heap ∧ va_K D vwCl [(cy, .int)] U ∧ va_D (fun _ => True) (mWs cy as w) ∧ mNW U
def mB (D : va_G) (cy : ClassId) (as : Nat → Nat) (A : Nat → Prop) (w : mW) (t : State) : Prop := va_P D vwCl (mWs cy as w) t.heap ∧ va_K D vwCl [(cy, .int)] t ∧ va_D A (mWs cy as w)
def mQc (Q : Option Value → mW → Prop) (D : va_G) (cy : ClassId) (as : Nat → Nat) (A : Nat → Prop) : Array Value → State → Outcome → State → Prop := fun _ st oc t => (∃ (v : Option Value) (w : mW), oc = .returned (v.map (mTr as)) ∧ Q v w ∧ mB D cy as A w t) ∧ va_F A st t
def mKd : mE → Nat ⊕ Nat
  | .inl a => .inl a.1
  | .inr o => .inr o.1
def mK (w w' : mW) : Prop := ∀ i, mKd (w' i) = mKd (w i)
theorem mK.rf {w : mW} : mK w w := fun _ => rfl
theorem mK.tr {w w' w'' : mW} (h : mK w w') (h' : mK w' w'') : mK w w'' := fun i => (h' i).trans (h i)
theorem mK.up {w : mW} {a : Nat} {e e' : mE} (hw : w a = e) (he : mKd e' = mKd e) : mK w (mUp w a e') := by
  intro i
  unfold mUp
  split
  · rename_i h; rw [h, hw, he]
  · rfl
def mTy (M : mM) (v : Option Value) : Prop := match v with
  | none => M.2.2.2 = none
  | some (.int x) => ∃ ty, M.2.2.2 = some ty ∧ narrow ty (.int x) = .int x
  | some (.long _) => M.2.2.2 = some .long
  | _ => False
def mC (d : Nat) (M : mM) (av : List Value) (w : mW) (Q : Option Value → mW → Prop) : Prop :=
  ∀ (l : Launch) (D : va_G) (cy : ClassId) (as : Nat → Nat) (sz : Nat), Met l M.1 (mWd M) (mRm d) (va_Pc (av.map (mTr as)) (mPre D cy as sz w)) (mQc (fun v w' => (mTy M v ∧ mK w w') ∧ Q v w') D cy as (va_A (mWs cy as w) sz)) 0 0 (va_A (mWs cy as w) sz)
-- locals
def mLoc (as : Nat → Nat) (ls : Array Slot) (nL : Nat) (L : List Value) : Prop := ls.size = nL ∧ lv_wf ls ∧ ∀ (i : Nat) (v : Value), L[i]? = some v → v ≠ .null → ls[i]? = some (.val (mTr as v))
def mVal (j : Nat) : Option Slot → Option (Nat × Value)
  | some (.val v) => some (j, v)
  | _ => none
def mAll (ls : Array Slot) : List (Nat × Value) := (List.range ls.size).filterMap (fun j => mVal j ls[j]?)
theorem mAll_mem {ls : Array Slot} {j : Nat} {v : Value} : (j, v) ∈ mAll ls ↔ ls[j]? = some (.val v) := by
  unfold mAll
  rw [List.mem_filterMap]
  constructor
  · rintro ⟨i, _, h⟩
    unfold mVal at h
    split at h
    · rename_i v' hv'
      cases h
      exact hv'
    · cases h
  · intro h
    exact ⟨j, List.mem_range.mpr (lv_lt h), by rw [h]; rfl⟩
theorem mLoc.has {as : Nat → Nat} {ls : Array Slot} {nL : Nat} {L : List Value} (h : mLoc as ls nL L) : lv_has ls nL (mAll ls) := ⟨h.1, h.2.1, fun q hq => mAll_mem.mp hq⟩
def mClr (L : List Value) (i : Nat) : List Value := match i with
  | 0 => L
  | j + 1 => match L[j]? with
    | some (.long _) => L.set j .null
    | some (.double _) => L.set j .null
    | _ => L
theorem mClr_get {L : List Value} {i j : Nat} {u : Value} (h : (mClr L i)[j]? = some u) (hu : u ≠ .null) : L[j]? = some u ∧ ¬ (j + 1 = i ∧ u.category = 2) := by
  cases i with
  | zero => exact ⟨h, fun q => by omega⟩
  | succ k =>
    unfold mClr at h
    simp only at h
    by_cases hjk : j = k
    · subst hjk
      split at h
      · rw [List.getElem?_set_self'] at h
        cases hq : L[j]? with
        | none => rw [hq] at h; cases h
        | some z => rw [hq] at h; exact absurd (Option.some.inj h).symm hu
      · rw [List.getElem?_set_self'] at h
        cases hq : L[j]? with
        | none => rw [hq] at h; cases h
        | some z => rw [hq] at h; exact absurd (Option.some.inj h).symm hu
      · rename_i h1 h2
        refine ⟨h, fun q => ?_⟩
        cases u with
        | long x => exact h1 _ h
        | double x => exact h2 _ h
        | _ => exact absurd q.2 (by simp [Value.category])
    · have hne : ¬ (j + 1 = k + 1 ∧ u.category = 2) := fun q => hjk (by omega)
      split at h
      · rw [List.getElem?_set_ne (Ne.symm hjk)] at h; exact ⟨h, hne⟩
      · rw [List.getElem?_set_ne (Ne.symm hjk)] at h; exact ⟨h, hne⟩
      · exact ⟨h, hne⟩
theorem mSet_get {L : List Value} {i j : Nat} {v u : Value} (h : (L.set i v)[j]? = some u) : (j = i ∧ u = v) ∨ (j ≠ i ∧ L[j]? = some u) := by
  by_cases hji : j = i
  · subst hji
    rw [List.getElem?_set_self'] at h
    cases hq : L[j]? with
    | none => rw [hq] at h; cases h
    | some z => rw [hq] at h; exact Or.inl ⟨rfl, (Option.some.inj h).symm⟩
  · rw [List.getElem?_set_ne (Ne.symm hji)] at h
    exact Or.inr ⟨hji, h⟩
theorem mLoc.st1 {as : Nat → Nat} {ls ls' : Array Slot} {nL : Nat} {L : List Value} {i : Nat} {v : Value} (h : mLoc as ls nL L) (h' : lv_has ls' nL ((i, mTr as v) :: (mAll ls).filter (fun q => !(q.1 == i) && !(q.1 + 1 == i && q.2.category == 2)))) : mLoc as ls' nL ((mClr L i).set i v) := by
  refine ⟨h'.1, h'.2.1, fun j u hj hu => ?_⟩
  rcases mSet_get hj with ⟨rfl, rfl⟩ | ⟨hji, hj⟩
  · exact h'.2.2 _ List.mem_cons_self
  · obtain ⟨h1, h2⟩ := mClr_get hj hu
    refine h'.2.2 (j, mTr as u) (List.mem_cons_of_mem _ (List.mem_filter.mpr ⟨mAll_mem.mpr (h.2.2 j u h1 hu), ?_⟩))
    simp only [Bool.and_eq_true, Bool.not_eq_true', beq_eq_false_iff_ne, ne_eq, Bool.and_eq_false_iff, mTr_cat]
    refine ⟨hji, ?_⟩
    by_cases hq : j + 1 = i
    · exact Or.inr fun q => h2 ⟨hq, q⟩
    · exact Or.inl hq
theorem mLoc.st2 {as : Nat → Nat} {ls ls' : Array Slot} {nL : Nat} {L : List Value} {i : Nat} {v : Value} (h : mLoc as ls nL L) (h' : lv_has ls' nL ((i, mTr as v) :: (mAll ls).filter (fun q => !(q.1 == i) && (!(q.1 == i + 1) && !(q.1 + 1 == i && q.2.category == 2))))) : mLoc as ls' nL (((mClr L i).set (i + 1) .null).set i v) := by
  refine ⟨h'.1, h'.2.1, fun j u hj hu => ?_⟩
  rcases mSet_get hj with ⟨rfl, rfl⟩ | ⟨hji, hj⟩
  · exact h'.2.2 _ List.mem_cons_self
  · rcases mSet_get hj with ⟨rfl, rfl⟩ | ⟨hji2, hj⟩
    · exact absurd rfl hu
    · obtain ⟨h1, h2⟩ := mClr_get hj hu
      refine h'.2.2 (j, mTr as u) (List.mem_cons_of_mem _ (List.mem_filter.mpr ⟨mAll_mem.mpr (h.2.2 j u h1 hu), ?_⟩))
      simp only [Bool.and_eq_true, Bool.not_eq_true', beq_eq_false_iff_ne, ne_eq, Bool.and_eq_false_iff, mTr_cat]
      refine ⟨hji, hji2, ?_⟩
      by_cases hq : j + 1 = i
      · exact Or.inr fun q => h2 ⟨hq, q⟩
      · exact Or.inl hq
def mEnt : List Value → List Value
  | [] => []
  | v :: vs => if v.category = 2 then v :: .null :: mEnt vs else v :: mEnt vs
theorem mEnt_args (as : Nat → Nat) : ∀ (av : List Value) (k i : Nat) (v : Value), (mEnt av)[i]? = some v → v ≠ .null → (k + i, mTr as v) ∈ lv_args k (av.map (mTr as))
  | [], k, i, v, h, _ => by cases h
  | a :: av, k, i, v, h, hv => by
    unfold mEnt at h
    simp only [List.map_cons, lv_args, mTr_cat]
    split at h
    · rename_i hc
      rw [if_pos hc]
      match i, h with
      | 0, h => cases h; exact List.mem_cons_self
      | 1, h => cases h; exact absurd rfl hv
      | i + 2, h =>
        have := mEnt_args as av (k + 2) i v h hv
        rw [show k + (i + 2) = k + 2 + i by omega]
        exact List.mem_cons_of_mem _ this
    · rename_i hc
      rw [if_neg hc]
      match i, h with
      | 0, h => cases h; exact List.mem_cons_self
      | i + 1, h =>
        have := mEnt_args as av (k + 1) i v h hv
        rw [show k + (i + 1) = k + 1 + i by omega]
        exact List.mem_cons_of_mem _ this
theorem mSl_len (as : Nat → Nat) : ∀ av : List Value, (lg_sl (av.map (mTr as))).length = (mEnt av).length
  | [] => rfl
  | a :: av => by
    have ih := mSl_len as av
    unfold lg_sl at ih ⊢
    simp only [List.map_cons, List.flatMap_cons, List.length_append, mTr_cat, ih, mEnt]
    split <;> simp [Nat.add_comm] <;> omega
-- the machine at a place of a method
def mCx (d : Nat) (M : mM) (p : Program) (R : Room) (s : State) (m : MethodId) (args : Array Value) (c : Code) (D : va_G) (cy : ClassId) (A : Nat → Prop) (H0 : Heap) (cells slots : Nat) : Prop :=
  p.tables.exec = Jvm.exec ∧ c.code = M.2.1 ∧ c.maxLocals = M.2.2.1 ∧ s.vm.findClass M.1.cls = some m.cls ∧ (∀ w ∈ mTT, w.before args s = true) ∧ mNW s ∧ va_K D vwCl [(cy, .int)] s ∧ (∀ q, H0.size ≤ q → A q) ∧ d ≤ R.frames ∧ 40 * d ≤ R.locals ∧ cells ≤ R.cells ∧ slots ≤ R.slots
def mRet (M : mM) (pc : Nat) (v : Option Value) : Prop := match v with
  | none => decode M.2.1 pc = .ok (.return_, 1) ∧ M.2.2.2 = none
  | some (.int x) => decode M.2.1 pc = .ok (.ireturn, 1) ∧ ∃ ty, M.2.2.2 = some ty ∧ narrow ty (.int x) = .int x
  | some (.long _) => decode M.2.1 pc = .ok (.lreturn, 1) ∧ M.2.2.2 = some .long
  | _ => False
theorem mRet.ty {M : mM} {pc : Nat} {v : Option Value} (h : mRet M pc v) : mTy M v := by
  unfold mRet at h
  unfold mTy
  split at h
  · exact h.2
  · exact h.2
  · exact h.2
  · exact h.elim
abbrev mX : Type := State → Heap → (Nat → Prop) → (Nat → Nat) → Prop
def mX0 : mX := fun _ _ _ _ => True
def mJ (X : mX) (d : Nat) (M : mM) (Q : Option Value → mW → Prop) (pc : Nat) (L st : List Value) (w : mW) : Prop :=
  ∀ (p : Program) (l : Launch) (e : Env) (R : Room) (s : State) (m : MethodId) (args : Array Value) (below : List Frame) (meth : Method) (c : Code) (D : va_G) (cy : ClassId) (as : Nat → Nat) (A : Nat → Prop) (H0 : Heap) (cells slots : Nat) (Z : State → Prop),
    mCx d M p R s m args c D cy A H0 cells slots → X s H0 A as →
    (∀ (v : Option Value) (w' : mW) (H : Heap) (locs : List Loc) (ls : Array Slot) (pc : Nat), mK w w' → Q v w' → va_P D vwCl (mWs cy as w') H → va_D A (mWs cy as w') → va_S A H0 H locs → mRet M pc v → W p l e R s m args below meth c H locs cells slots Z (F0 m pc ls (v.toList.map (mTr as)))) →
    ∀ (H : Heap) (locs : List Loc) (ls : Array Slot), va_P D vwCl (mWs cy as w) H → va_D A (mWs cy as w) → va_S A H0 H locs → mLoc as ls M.2.2.1 L → W p l e R s m args below meth c H locs cells slots Z (F0 m pc ls (st.map (mTr as)))
theorem mJ.mono {X : mX} {d : Nat} {M : mM} {Q Q' : Option Value → mW → Prop} {pc : Nat} {L st : List Value} {w : mW} (h : mJ X d M Q pc L st w) (hq : ∀ v w', Q v w' → Q' v w') : mJ X d M Q' pc L st w :=
  fun p l e R s m args below meth c D cy as A H0 cells slots Z hC hX hE H locs ls hP hD hS hl => h p l e R s m args below meth c D cy as A H0 cells slots Z hC hX (fun v w' H locs ls pc hk hv => hE v w' H locs ls pc hk (hq v w' hv)) H locs ls hP hD hS hl
theorem mC.mono {d : Nat} {M : mM} {av : List Value} {w : mW} {Q Q' : Option Value → mW → Prop} (h : mC d M av w Q) (hq : ∀ v w', Q v w' → Q' v w') : mC d M av w Q' := by
  intro l D cy as sz p e ha hc hk s m args below hf h1 hP hT
  obtain ⟨k, o, h2, h3, h4, ⟨⟨⟨v, w', e1, e2, e3⟩, e4⟩, e5⟩⟩ := h l D cy as sz p e ha hc hk s m args below hf h1 hP hT
  exact ⟨k, o, h2, h3, h4, ⟨⟨⟨v, w', e1, ⟨e2.1, hq v w' e2.2⟩, e3⟩, e4⟩, e5⟩⟩
set_option maxHeartbeats 1000000 in
theorem mC.of {d : Nat} {M : mM} {av : List Value} {w : mW} {Q : Option Value → mW → Prop} {L : List Value} (hOK : mOK M) (k : Nat) (hL : mEnt av ++ List.replicate k .null = L) (hn : L.length = M.2.2.1) (h : mJ mX0 d M Q 0 L [] w) : mC d M av w Q := by
  intro l D cy as sz
  refine Met.ofW (cc := M.2.1) (maxL := M.2.2.1) (ret := M.2.2.2) hOK.2.1 rfl ?_
  intro p e s m args below meth c s₁ B hml hv
  obtain ⟨rfl, hsz, hP, hK, hD0, hN⟩ := hv
  have hts := atoms_spec (ws := mWd M) B.pre
  have hown : s.vm.findClass M.1.cls = some m.cls := findClass_of_methodNamed B.named
  have hlocks := B.notSynchronized
  subst hsz
  have hD := hD0.self (sz := s.heap.size)
  have hA : ∀ q : Nat, s.heap.size ≤ q → va_A (mWs cy as w) s.heap.size q := fun q h => Or.inr h
  have hS : va_S (va_A (mWs cy as w) s.heap.size) s.heap s.heap [] := va_S.rf
  have hlen : (lg_sl (av.map (mTr as))).length ≤ M.2.2.1 := by
    rw [mSl_len, ← hn, ← hL, List.length_append]; omega
  have hl := lv_entry (av.map (mTr as)) hlen
  rw [lg_entry_eq]
  generalize (lg_sl (av.map (mTr as)) ++ List.replicate (M.2.2.1 - (lg_sl (av.map (mTr as))).length) Slot.unset).toArray = ls at hl ⊢
  refine h p l e (headSpec (mWd M) (mRm d)).room s m _ below meth c D cy as (va_A (mWs cy as w) s.heap.size) s.heap 0 0 _ ⟨B.exec, B.bytes, hml, hown, fun w hw => hts w (List.mem_cons_of_mem _ hw), hN, hK, hA, Nat.le_refl _, Nat.le_refl _, Nat.zero_le _, Nat.zero_le _⟩ trivial ?_ s.heap [] ls hP hD hS ⟨hl.1, hl.2.1, fun i v hi hv => ?_⟩
  · intro v w' H locs ls pc hk9 hq hP hD hS hr
    have hfin : ∀ t : State, t.heap = H → s.WarmedH t.vm → mQc (fun v w' => (mTy M v ∧ mK w w') ∧ Q v w') D cy as (va_A (mWs cy as w) s.heap.size) (av.map (mTr as)).toArray s (.returned (v.map (mTr as))) t := fun t ht hW => ⟨⟨v, w', rfl, ⟨⟨hr.ty, hk9⟩, hq⟩, by rw [ht]; exact hP, va_K.moved hW.alike hK, hD⟩, hS.F ht⟩
    match v, hr, hfin with
    | none, hr, hfin => exact W.vret B.exec B.bytes (B.returns.trans hr.2) hfin hS.2.2 hr.1 hlocks
    | some (.int x), hr, hfin =>
      obtain ⟨h1, ty, h2, h3⟩ := hr
      exact W.zret B.exec B.bytes (B.returns.trans h2) h3 hfin hS.2.2 h1 hlocks
    | some (.long x), hr, hfin => exact W.lret B.exec B.bytes (B.returns.trans hr.2) hfin hS.2.2 hr.1 hlocks
  · have h1 : (mEnt av)[i]? = some v := by
      rw [← hL] at hi
      by_cases hb : i < (mEnt av).length
      · rwa [List.getElem?_append_left hb] at hi
      · rw [List.getElem?_append_right (by omega)] at hi
        have := List.mem_of_getElem? hi
        exact absurd (List.eq_of_mem_replicate this) hv
    have h2 := mEnt_args as av 0 i v h1 hv
    rw [Nat.zero_add] at h2
    exact hl.2.2 _ h2
theorem x_iconst {X : mX} {d : Nat} {M : mM} {Q : Option Value → mW → Prop} {pc : Nat} {L st : List Value} {w : mW} {n : Int} {v : Int32} (hd : decode M.2.1 pc = .ok (.iconst n, 1)) (hv : Int32.ofInt n = v) (k : mJ X d M Q (pc + 1) L (.int v :: st) w) : mJ X d M Q pc L (st) w := fun p l e R s m args below meth c D cy as A H0 cells slots Z hC hX hE H locs ls hP hD hS hl => lv_iconst hC.1 hC.2.1 hd hv (k p l e R s m args below meth c D cy as A H0 cells slots Z hC hX hE H locs ls hP hD hS hl)
theorem x_bipush {X : mX} {d : Nat} {M : mM} {Q : Option Value → mW → Prop} {pc : Nat} {L st : List Value} {w : mW} {n : Int} {v : Int32} (hd : decode M.2.1 pc = .ok (.bipush n, 2)) (hv : (Int8.ofInt n).toInt32 = v) (k : mJ X d M Q (pc + 2) L (.int v :: st) w) : mJ X d M Q pc L (st) w := fun p l e R s m args below meth c D cy as A H0 cells slots Z hC hX hE H locs ls hP hD hS hl => lv_bipush hC.1 hC.2.1 hd hv (k p l e R s m args below meth c D cy as A H0 cells slots Z hC hX hE H locs ls hP hD hS hl)
theorem x_sipush {X : mX} {d : Nat} {M : mM} {Q : Option Value → mW → Prop} {pc : Nat} {L st : List Value} {w : mW} {n : Int} {v : Int32} (hd : decode M.2.1 pc = .ok (.sipush n, 3)) (hv : (Int16.ofInt n).toInt32 = v) (k : mJ X d M Q (pc + 3) L (.int v :: st) w) : mJ X d M Q pc L (st) w := fun p l e R s m args below meth c D cy as A H0 cells slots Z hC hX hE H locs ls hP hD hS hl => lv_sipush hC.1 hC.2.1 hd hv (k p l e R s m args below meth c D cy as A H0 cells slots Z hC hX hE H locs ls hP hD hS hl)
theorem x_lconst {X : mX} {d : Nat} {M : mM} {Q : Option Value → mW → Prop} {pc : Nat} {L st : List Value} {w : mW} {n : Fin 2} {v : Int64} (hd : decode M.2.1 pc = .ok (.lconst n, 1)) (hv : Int64.ofNat (n : Nat) = v) (k : mJ X d M Q (pc + 1) L (.long v :: st) w) : mJ X d M Q pc L (st) w := fun p l e R s m args below meth c D cy as A H0 cells slots Z hC hX hE H locs ls hP hD hS hl => lv_lconst hC.1 hC.2.1 hd hv (k p l e R s m args below meth c D cy as A H0 cells slots Z hC hX hE H locs ls hP hD hS hl)
theorem x_iload_n {X : mX} {d : Nat} {M : mM} {Q : Option Value → mW → Prop} {pc : Nat} {L st : List Value} {w : mW} {j : Fin 4} {i : Nat} {x : Int32} (hd : decode M.2.1 pc = .ok (.iload_n j, 1)) (hi : (j : Nat) = i) (hx : L[i]? = some (.int x)) (k : mJ X d M Q (pc + 1) L (.int x :: st) w) : mJ X d M Q pc L (st) w := fun p l e R s m args below meth c D cy as A H0 cells slots Z hC hX hE H locs ls hP hD hS hl => lv_iload_n hC.1 hC.2.1 hd hi (hl.2.2 _ _ hx (fun q => by cases q)) (k p l e R s m args below meth c D cy as A H0 cells slots Z hC hX hE H locs ls hP hD hS hl)
theorem x_iload {X : mX} {d : Nat} {M : mM} {Q : Option Value → mW → Prop} {pc : Nat} {L st : List Value} {w : mW} {i : Nat} {x : Int32} (hd : decode M.2.1 pc = .ok (.iload i, 2)) (hx : L[i]? = some (.int x)) (k : mJ X d M Q (pc + 2) L (.int x :: st) w) : mJ X d M Q pc L (st) w := fun p l e R s m args below meth c D cy as A H0 cells slots Z hC hX hE H locs ls hP hD hS hl => lv_iload hC.1 hC.2.1 hd (hl.2.2 _ _ hx (fun q => by cases q)) (k p l e R s m args below meth c D cy as A H0 cells slots Z hC hX hE H locs ls hP hD hS hl)
theorem x_lload_n {X : mX} {d : Nat} {M : mM} {Q : Option Value → mW → Prop} {pc : Nat} {L st : List Value} {w : mW} {j : Fin 4} {i : Nat} {x : Int64} (hd : decode M.2.1 pc = .ok (.lload_n j, 1)) (hi : (j : Nat) = i) (hx : L[i]? = some (.long x)) (k : mJ X d M Q (pc + 1) L (.long x :: st) w) : mJ X d M Q pc L (st) w := fun p l e R s m args below meth c D cy as A H0 cells slots Z hC hX hE H locs ls hP hD hS hl => lv_lload_n hC.1 hC.2.1 hd hi (hl.2.2 _ _ hx (fun q => by cases q)) (k p l e R s m args below meth c D cy as A H0 cells slots Z hC hX hE H locs ls hP hD hS hl)
theorem x_lload {X : mX} {d : Nat} {M : mM} {Q : Option Value → mW → Prop} {pc : Nat} {L st : List Value} {w : mW} {i : Nat} {x : Int64} (hd : decode M.2.1 pc = .ok (.lload i, 2)) (hx : L[i]? = some (.long x)) (k : mJ X d M Q (pc + 2) L (.long x :: st) w) : mJ X d M Q pc L (st) w := fun p l e R s m args below meth c D cy as A H0 cells slots Z hC hX hE H locs ls hP hD hS hl => lv_lload hC.1 hC.2.1 hd (hl.2.2 _ _ hx (fun q => by cases q)) (k p l e R s m args below meth c D cy as A H0 cells slots Z hC hX hE H locs ls hP hD hS hl)
theorem x_aload_n {X : mX} {d : Nat} {M : mM} {Q : Option Value → mW → Prop} {pc : Nat} {L st : List Value} {w : mW} {j : Fin 4} {i : Nat} {x : Nat} (hd : decode M.2.1 pc = .ok (.aload_n j, 1)) (hi : (j : Nat) = i) (hx : L[i]? = some (.ref x)) (k : mJ X d M Q (pc + 1) L (.ref x :: st) w) : mJ X d M Q pc L (st) w := fun p l e R s m args below meth c D cy as A H0 cells slots Z hC hX hE H locs ls hP hD hS hl => lv_aload_n hC.1 hC.2.1 hd hi (x := as x) (hl.2.2 _ _ hx (fun q => by cases q)) (k p l e R s m args below meth c D cy as A H0 cells slots Z hC hX hE H locs ls hP hD hS hl)
theorem x_aload {X : mX} {d : Nat} {M : mM} {Q : Option Value → mW → Prop} {pc : Nat} {L st : List Value} {w : mW} {i : Nat} {x : Nat} (hd : decode M.2.1 pc = .ok (.aload i, 2)) (hx : L[i]? = some (.ref x)) (k : mJ X d M Q (pc + 2) L (.ref x :: st) w) : mJ X d M Q pc L (st) w := fun p l e R s m args below meth c D cy as A H0 cells slots Z hC hX hE H locs ls hP hD hS hl => lv_aload hC.1 hC.2.1 hd (x := as x) (hl.2.2 _ _ hx (fun q => by cases q)) (k p l e R s m args below meth c D cy as A H0 cells slots Z hC hX hE H locs ls hP hD hS hl)
theorem x_istore_n {X : mX} {d : Nat} {M : mM} {Q : Option Value → mW → Prop} {pc : Nat} {L st : List Value} {w : mW} {j : Fin 4} {i : Nat} {x : Int32} {L' : List Value} (hd : decode M.2.1 pc = .ok (.istore_n j, 1)) (hi : (j : Nat) = i) (hn : i < M.2.2.1) (hL : (mClr L i).set i (.int x) = L') (k : mJ X d M Q (pc + 1) L' st w) : mJ X d M Q pc L (.int x :: st) w := fun p l e R s m args below meth c D cy as A H0 cells slots Z hC hX hE H locs ls hP hD hS hl => lv_istore_n hC.1 hC.2.1 hd hi hl.has hn rfl (fun ls2 h2 => k p l e R s m args below meth c D cy as A H0 cells slots Z hC hX hE H locs ls2 hP hD hS (hL ▸ hl.st1 (v := .int x) h2))
theorem x_istore {X : mX} {d : Nat} {M : mM} {Q : Option Value → mW → Prop} {pc : Nat} {L st : List Value} {w : mW} {i : Nat} {x : Int32} {L' : List Value} (hd : decode M.2.1 pc = .ok (.istore i, 2)) (hn : i < M.2.2.1) (hL : (mClr L i).set i (.int x) = L') (k : mJ X d M Q (pc + 2) L' st w) : mJ X d M Q pc L (.int x :: st) w := fun p l e R s m args below meth c D cy as A H0 cells slots Z hC hX hE H locs ls hP hD hS hl => lv_istore hC.1 hC.2.1 hd hl.has hn rfl (fun ls2 h2 => k p l e R s m args below meth c D cy as A H0 cells slots Z hC hX hE H locs ls2 hP hD hS (hL ▸ hl.st1 (v := .int x) h2))
theorem x_lstore_n {X : mX} {d : Nat} {M : mM} {Q : Option Value → mW → Prop} {pc : Nat} {L st : List Value} {w : mW} {j : Fin 4} {i : Nat} {x : Int64} {L' : List Value} (hd : decode M.2.1 pc = .ok (.lstore_n j, 1)) (hi : (j : Nat) = i) (hn : i + 1 < M.2.2.1) (hL : ((mClr L i).set (i + 1) .null).set i (.long x) = L') (k : mJ X d M Q (pc + 1) L' st w) : mJ X d M Q pc L (.long x :: st) w := fun p l e R s m args below meth c D cy as A H0 cells slots Z hC hX hE H locs ls hP hD hS hl => lv_lstore_n hC.1 hC.2.1 hd hi hl.has hn rfl (fun ls2 h2 => k p l e R s m args below meth c D cy as A H0 cells slots Z hC hX hE H locs ls2 hP hD hS (hL ▸ hl.st2 (v := .long x) h2))
theorem x_lstore {X : mX} {d : Nat} {M : mM} {Q : Option Value → mW → Prop} {pc : Nat} {L st : List Value} {w : mW} {i : Nat} {x : Int64} {L' : List Value} (hd : decode M.2.1 pc = .ok (.lstore i, 2)) (hn : i + 1 < M.2.2.1) (hL : ((mClr L i).set (i + 1) .null).set i (.long x) = L') (k : mJ X d M Q (pc + 2) L' st w) : mJ X d M Q pc L (.long x :: st) w := fun p l e R s m args below meth c D cy as A H0 cells slots Z hC hX hE H locs ls hP hD hS hl => lv_lstore hC.1 hC.2.1 hd hl.has hn rfl (fun ls2 h2 => k p l e R s m args below meth c D cy as A H0 cells slots Z hC hX hE H locs ls2 hP hD hS (hL ▸ hl.st2 (v := .long x) h2))
theorem x_iinc {X : mX} {d : Nat} {M : mM} {Q : Option Value → mW → Prop} {pc : Nat} {L st : List Value} {w : mW} {i : Nat} {n : Int} {x v : Int32} {L' : List Value} (hd : decode M.2.1 pc = .ok (.iinc i n, 3)) (hn : i < M.2.2.1) (hx : L[i]? = some (.int x)) (hv : x + Int32.ofInt n = v) (hL : (mClr L i).set i (.int v) = L') (k : mJ X d M Q (pc + 3) L' st w) : mJ X d M Q pc L st w := fun p l e R s m args below meth c D cy as A H0 cells slots Z hC hX hE H locs ls hP hD hS hl => by
  obtain ⟨k0, hk0⟩ := List.getElem?_of_mem (mAll_mem.mpr (hl.2.2 _ _ hx (fun q => by cases q)))
  exact lv_iinc hC.1 hC.2.1 hd hl.has hk0 hv hn rfl (fun ls2 h2 => k p l e R s m args below meth c D cy as A H0 cells slots Z hC hX hE H locs ls2 hP hD hS (hL ▸ hl.st1 (v := .int v) h2))
theorem x_iadd {X : mX} {d : Nat} {M : mM} {Q : Option Value → mW → Prop} {pc : Nat} {L st : List Value} {w : mW} {a b : Int32} (hd : decode M.2.1 pc = .ok (.iadd, 1))  (k : mJ X d M Q (pc + 1) L (.int (a + b) :: st) w) : mJ X d M Q pc L (.int b :: .int a :: st) w := fun p l e R s m args below meth c D cy as A H0 cells slots Z hC hX hE H locs ls hP hD hS hl => lv_iadd hC.1 hC.2.1 hd  (k p l e R s m args below meth c D cy as A H0 cells slots Z hC hX hE H locs ls hP hD hS hl)
theorem x_isub {X : mX} {d : Nat} {M : mM} {Q : Option Value → mW → Prop} {pc : Nat} {L st : List Value} {w : mW} {a b : Int32} (hd : decode M.2.1 pc = .ok (.isub, 1))  (k : mJ X d M Q (pc + 1) L (.int (a - b) :: st) w) : mJ X d M Q pc L (.int b :: .int a :: st) w := fun p l e R s m args below meth c D cy as A H0 cells slots Z hC hX hE H locs ls hP hD hS hl => lv_isub hC.1 hC.2.1 hd  (k p l e R s m args below meth c D cy as A H0 cells slots Z hC hX hE H locs ls hP hD hS hl)
theorem x_imul {X : mX} {d : Nat} {M : mM} {Q : Option Value → mW → Prop} {pc : Nat} {L st : List Value} {w : mW} {a b : Int32} (hd : decode M.2.1 pc = .ok (.imul, 1))  (k : mJ X d M Q (pc + 1) L (.int (a * b) :: st) w) : mJ X d M Q pc L (.int b :: .int a :: st) w := fun p l e R s m args below meth c D cy as A H0 cells slots Z hC hX hE H locs ls hP hD hS hl => lv_imul hC.1 hC.2.1 hd  (k p l e R s m args below meth c D cy as A H0 cells slots Z hC hX hE H locs ls hP hD hS hl)
theorem x_iand {X : mX} {d : Nat} {M : mM} {Q : Option Value → mW → Prop} {pc : Nat} {L st : List Value} {w : mW} {a b : Int32} (hd : decode M.2.1 pc = .ok (.iand, 1))  (k : mJ X d M Q (pc + 1) L (.int (a &&& b) :: st) w) : mJ X d M Q pc L (.int b :: .int a :: st) w := fun p l e R s m args below meth c D cy as A H0 cells slots Z hC hX hE H locs ls hP hD hS hl => lv_iand hC.1 hC.2.1 hd  (k p l e R s m args below meth c D cy as A H0 cells slots Z hC hX hE H locs ls hP hD hS hl)
theorem x_ior {X : mX} {d : Nat} {M : mM} {Q : Option Value → mW → Prop} {pc : Nat} {L st : List Value} {w : mW} {a b : Int32} (hd : decode M.2.1 pc = .ok (.ior, 1))  (k : mJ X d M Q (pc + 1) L (.int (a ||| b) :: st) w) : mJ X d M Q pc L (.int b :: .int a :: st) w := fun p l e R s m args below meth c D cy as A H0 cells slots Z hC hX hE H locs ls hP hD hS hl => lv_ior hC.1 hC.2.1 hd  (k p l e R s m args below meth c D cy as A H0 cells slots Z hC hX hE H locs ls hP hD hS hl)
theorem x_ishl {X : mX} {d : Nat} {M : mM} {Q : Option Value → mW → Prop} {pc : Nat} {L st : List Value} {w : mW} {a b : Int32} (hd : decode M.2.1 pc = .ok (.ishl, 1))  (k : mJ X d M Q (pc + 1) L (.int (a <<< (b &&& 31)) :: st) w) : mJ X d M Q pc L (.int b :: .int a :: st) w := fun p l e R s m args below meth c D cy as A H0 cells slots Z hC hX hE H locs ls hP hD hS hl => lv_ishl hC.1 hC.2.1 hd  (k p l e R s m args below meth c D cy as A H0 cells slots Z hC hX hE H locs ls hP hD hS hl)
theorem x_ishr {X : mX} {d : Nat} {M : mM} {Q : Option Value → mW → Prop} {pc : Nat} {L st : List Value} {w : mW} {a b : Int32} (hd : decode M.2.1 pc = .ok (.ishr, 1))  (k : mJ X d M Q (pc + 1) L (.int (a >>> (b &&& 31)) :: st) w) : mJ X d M Q pc L (.int b :: .int a :: st) w := fun p l e R s m args below meth c D cy as A H0 cells slots Z hC hX hE H locs ls hP hD hS hl => lv_ishr hC.1 hC.2.1 hd  (k p l e R s m args below meth c D cy as A H0 cells slots Z hC hX hE H locs ls hP hD hS hl)
theorem x_iushr {X : mX} {d : Nat} {M : mM} {Q : Option Value → mW → Prop} {pc : Nat} {L st : List Value} {w : mW} {a b v : Int32} (hd : decode M.2.1 pc = .ok (.iushr, 1)) (hv : (a.toUInt32 >>> (b.toUInt32 &&& Int32.toUInt32 31)).toInt32 = v) (k : mJ X d M Q (pc + 1) L (.int v :: st) w) : mJ X d M Q pc L (.int b :: .int a :: st) w := fun p l e R s m args below meth c D cy as A H0 cells slots Z hC hX hE H locs ls hP hD hS hl => lv_iushr hC.1 hC.2.1 hd hv (k p l e R s m args below meth c D cy as A H0 cells slots Z hC hX hE H locs ls hP hD hS hl)
theorem x_ineg {X : mX} {d : Nat} {M : mM} {Q : Option Value → mW → Prop} {pc : Nat} {L st : List Value} {w : mW} {a : Int32} (hd : decode M.2.1 pc = .ok (.ineg, 1))  (k : mJ X d M Q (pc + 1) L (.int (-a) :: st) w) : mJ X d M Q pc L (.int a :: st) w := fun p l e R s m args below meth c D cy as A H0 cells slots Z hC hX hE H locs ls hP hD hS hl => lv_ineg hC.1 hC.2.1 hd  (k p l e R s m args below meth c D cy as A H0 cells slots Z hC hX hE H locs ls hP hD hS hl)
theorem x_idiv {X : mX} {d : Nat} {M : mM} {Q : Option Value → mW → Prop} {pc : Nat} {L st : List Value} {w : mW} {a b : Int32} (hd : decode M.2.1 pc = .ok (.idiv, 1)) (hne : ¬ b = 0) (k : mJ X d M Q (pc + 1) L (.int (a / b) :: st) w) : mJ X d M Q pc L (.int b :: .int a :: st) w := fun p l e R s m args below meth c D cy as A H0 cells slots Z hC hX hE H locs ls hP hD hS hl => lv_idiv hC.1 hC.2.1 hd hne (k p l e R s m args below meth c D cy as A H0 cells slots Z hC hX hE H locs ls hP hD hS hl)
theorem x_irem {X : mX} {d : Nat} {M : mM} {Q : Option Value → mW → Prop} {pc : Nat} {L st : List Value} {w : mW} {a b : Int32} (hd : decode M.2.1 pc = .ok (.irem, 1)) (hne : ¬ b = 0) (k : mJ X d M Q (pc + 1) L (.int (a - a / b * b) :: st) w) : mJ X d M Q pc L (.int b :: .int a :: st) w := fun p l e R s m args below meth c D cy as A H0 cells slots Z hC hX hE H locs ls hP hD hS hl => lv_irem hC.1 hC.2.1 hd hne (k p l e R s m args below meth c D cy as A H0 cells slots Z hC hX hE H locs ls hP hD hS hl)
theorem x_ladd {X : mX} {d : Nat} {M : mM} {Q : Option Value → mW → Prop} {pc : Nat} {L st : List Value} {w : mW} {a b : Int64} (hd : decode M.2.1 pc = .ok (.ladd, 1))  (k : mJ X d M Q (pc + 1) L (.long (a + b) :: st) w) : mJ X d M Q pc L (.long b :: .long a :: st) w := fun p l e R s m args below meth c D cy as A H0 cells slots Z hC hX hE H locs ls hP hD hS hl => lv_ladd hC.1 hC.2.1 hd  (k p l e R s m args below meth c D cy as A H0 cells slots Z hC hX hE H locs ls hP hD hS hl)
theorem x_lmul {X : mX} {d : Nat} {M : mM} {Q : Option Value → mW → Prop} {pc : Nat} {L st : List Value} {w : mW} {a b : Int64} (hd : decode M.2.1 pc = .ok (.lmul, 1))  (k : mJ X d M Q (pc + 1) L (.long (a * b) :: st) w) : mJ X d M Q pc L (.long b :: .long a :: st) w := fun p l e R s m args below meth c D cy as A H0 cells slots Z hC hX hE H locs ls hP hD hS hl => lv_lmul hC.1 hC.2.1 hd  (k p l e R s m args below meth c D cy as A H0 cells slots Z hC hX hE H locs ls hP hD hS hl)
theorem x_ldiv {X : mX} {d : Nat} {M : mM} {Q : Option Value → mW → Prop} {pc : Nat} {L st : List Value} {w : mW} {a b : Int64} (hd : decode M.2.1 pc = .ok (.ldiv, 1)) (hne : ¬ b = 0) (k : mJ X d M Q (pc + 1) L (.long (a / b) :: st) w) : mJ X d M Q pc L (.long b :: .long a :: st) w := fun p l e R s m args below meth c D cy as A H0 cells slots Z hC hX hE H locs ls hP hD hS hl => lv_ldiv hC.1 hC.2.1 hd hne (k p l e R s m args below meth c D cy as A H0 cells slots Z hC hX hE H locs ls hP hD hS hl)
theorem x_lrem {X : mX} {d : Nat} {M : mM} {Q : Option Value → mW → Prop} {pc : Nat} {L st : List Value} {w : mW} {a b : Int64} (hd : decode M.2.1 pc = .ok (.lrem, 1)) (hne : ¬ b = 0) (k : mJ X d M Q (pc + 1) L (.long (a - a / b * b) :: st) w) : mJ X d M Q pc L (.long b :: .long a :: st) w := fun p l e R s m args below meth c D cy as A H0 cells slots Z hC hX hE H locs ls hP hD hS hl => lv_lrem hC.1 hC.2.1 hd hne (k p l e R s m args below meth c D cy as A H0 cells slots Z hC hX hE H locs ls hP hD hS hl)
theorem x_lcmp {X : mX} {d : Nat} {M : mM} {Q : Option Value → mW → Prop} {pc : Nat} {L st : List Value} {w : mW} {a b : Int64} (hd : decode M.2.1 pc = .ok (.lcmp, 1))  (k : mJ X d M Q (pc + 1) L (.int (lg_cmp a b) :: st) w) : mJ X d M Q pc L (.long b :: .long a :: st) w := fun p l e R s m args below meth c D cy as A H0 cells slots Z hC hX hE H locs ls hP hD hS hl => W.lcmp hC.1 hC.2.1 hd  (k p l e R s m args below meth c D cy as A H0 cells slots Z hC hX hE H locs ls hP hD hS hl)
theorem x_i2l {X : mX} {d : Nat} {M : mM} {Q : Option Value → mW → Prop} {pc : Nat} {L st : List Value} {w : mW} {a : Int32} {v : Int64} (hd : decode M.2.1 pc = .ok (.i2l, 1)) (hv : a.toInt64 = v) (k : mJ X d M Q (pc + 1) L (.long v :: st) w) : mJ X d M Q pc L (.int a :: st) w := fun p l e R s m args below meth c D cy as A H0 cells slots Z hC hX hE H locs ls hP hD hS hl => lv_i2l hC.1 hC.2.1 hd hv (k p l e R s m args below meth c D cy as A H0 cells slots Z hC hX hE H locs ls hP hD hS hl)
theorem x_i2b {X : mX} {d : Nat} {M : mM} {Q : Option Value → mW → Prop} {pc : Nat} {L st : List Value} {w : mW} {a v : Int32} (hd : decode M.2.1 pc = .ok (.i2b, 1)) (hv : a.toInt8.toInt32 = v) (k : mJ X d M Q (pc + 1) L (.int v :: st) w) : mJ X d M Q pc L (.int a :: st) w := fun p l e R s m args below meth c D cy as A H0 cells slots Z hC hX hE H locs ls hP hD hS hl => lv_i2b hC.1 hC.2.1 hd hv (k p l e R s m args below meth c D cy as A H0 cells slots Z hC hX hE H locs ls hP hD hS hl)
theorem x_i2s {X : mX} {d : Nat} {M : mM} {Q : Option Value → mW → Prop} {pc : Nat} {L st : List Value} {w : mW} {a v : Int32} (hd : decode M.2.1 pc = .ok (.i2s, 1)) (hv : a.toInt16.toInt32 = v) (k : mJ X d M Q (pc + 1) L (.int v :: st) w) : mJ X d M Q pc L (.int a :: st) w := fun p l e R s m args below meth c D cy as A H0 cells slots Z hC hX hE H locs ls hP hD hS hl => lv_i2s hC.1 hC.2.1 hd hv (k p l e R s m args below meth c D cy as A H0 cells slots Z hC hX hE H locs ls hP hD hS hl)
theorem x_dup {X : mX} {d : Nat} {M : mM} {Q : Option Value → mW → Prop} {pc : Nat} {L st : List Value} {w : mW} {a : Value} (hd : decode M.2.1 pc = .ok (.dup, 1)) (ha : a.category = 1) (k : mJ X d M Q (pc + 1) L (a :: a :: st) w) : mJ X d M Q pc L (a :: st) w := fun p l e R s m args below meth c D cy as A H0 cells slots Z hC hX hE H locs ls hP hD hS hl => lv_dup hC.1 hC.2.1 hd ((mTr_cat as a).trans ha) (k p l e R s m args below meth c D cy as A H0 cells slots Z hC hX hE H locs ls hP hD hS hl)
theorem x_dup2 {X : mX} {d : Nat} {M : mM} {Q : Option Value → mW → Prop} {pc : Nat} {L st : List Value} {w : mW} {a b : Value} (hd : decode M.2.1 pc = .ok (.dup2, 1)) (ha : a.category = 1) (hb : b.category = 1) (k : mJ X d M Q (pc + 1) L (a :: b :: a :: b :: st) w) : mJ X d M Q pc L (a :: b :: st) w := fun p l e R s m args below meth c D cy as A H0 cells slots Z hC hX hE H locs ls hP hD hS hl => lv_dup2_11 hC.1 hC.2.1 hd ((mTr_cat as a).trans ha) ((mTr_cat as b).trans hb) (k p l e R s m args below meth c D cy as A H0 cells slots Z hC hX hE H locs ls hP hD hS hl)
theorem x_ldc2 {X : mX} {d : Nat} {M : mM} {Q : Option Value → mW → Prop} {pc : Nat} {L st : List Value} {w : mW} {idx : Nat} {v : Int64} (hd : decode M.2.1 pc = .ok (.ldc2_w idx, 3)) (hc : Cond.constantLong M.1.cls idx v ∈ mTT) (k : mJ X d M Q (pc + 3) L (.long v :: st) w) : mJ X d M Q pc L (st) w := fun p l e R s m args below meth c D cy as A H0 cells slots Z hC hX hE H locs ls hP hD hS hl => lv_ldc2 hC.1 hC.2.1 hC.2.2.2.1 (hC.2.2.2.2.1 _ hc) hd (k p l e R s m args below meth c D cy as A H0 cells slots Z hC hX hE H locs ls hP hD hS hl)
theorem x_ldcw {X : mX} {d : Nat} {M : mM} {Q : Option Value → mW → Prop} {pc : Nat} {L st : List Value} {w : mW} {idx : Nat} {v : Int32} (hd : decode M.2.1 pc = .ok (.ldc_w idx, 3)) (hc : Cond.constant M.1.cls idx v ∈ mTT) (k : mJ X d M Q (pc + 3) L (.int v :: st) w) : mJ X d M Q pc L (st) w := fun p l e R s m args below meth c D cy as A H0 cells slots Z hC hX hE H locs ls hP hD hS hl => lv_ldcw hC.1 hC.2.1 hC.2.2.2.1 (hC.2.2.2.2.1 _ hc) hd (k p l e R s m args below meth c D cy as A H0 cells slots Z hC hX hE H locs ls hP hD hS hl)
theorem x_if_eq {X : mX} {d : Nat} {M : mM} {Q : Option Value → mW → Prop} {pc : Nat} {L st : List Value} {w : mW} {x : Int32} {off : Int} {tgt : Nat} (hd : decode M.2.1 pc = .ok (.ifCond .eq off, 3)) (ht : (pc : Int) + off = (tgt : Int)) (kt : x = 0 → mJ X d M Q tgt L st w) (kf : ¬ x = 0 → mJ X d M Q (pc + 3) L st w) : mJ X d M Q pc L (.int x :: st) w := fun p l e R s m args below meth c D cy as A H0 cells slots Z hC hX hE H locs ls hP hD hS hl => lv_if_eq hC.1 hC.2.1 hd ht (fun h => kt h p l e R s m args below meth c D cy as A H0 cells slots Z hC hX hE H locs ls hP hD hS hl) (fun h => kf h p l e R s m args below meth c D cy as A H0 cells slots Z hC hX hE H locs ls hP hD hS hl)
theorem x_icmp_eq {X : mX} {d : Nat} {M : mM} {Q : Option Value → mW → Prop} {pc : Nat} {L st : List Value} {w : mW} {x y : Int32} {off : Int} {tgt : Nat} (hd : decode M.2.1 pc = .ok (.if_icmp .eq off, 3)) (ht : (pc : Int) + off = (tgt : Int)) (kt : x = y → mJ X d M Q tgt L st w) (kf : ¬ x = y → mJ X d M Q (pc + 3) L st w) : mJ X d M Q pc L (.int y :: .int x :: st) w := fun p l e R s m args below meth c D cy as A H0 cells slots Z hC hX hE H locs ls hP hD hS hl => lv_icmp_eq hC.1 hC.2.1 hd ht (fun h => kt h p l e R s m args below meth c D cy as A H0 cells slots Z hC hX hE H locs ls hP hD hS hl) (fun h => kf h p l e R s m args below meth c D cy as A H0 cells slots Z hC hX hE H locs ls hP hD hS hl)
theorem x_if_ne {X : mX} {d : Nat} {M : mM} {Q : Option Value → mW → Prop} {pc : Nat} {L st : List Value} {w : mW} {x : Int32} {off : Int} {tgt : Nat} (hd : decode M.2.1 pc = .ok (.ifCond .ne off, 3)) (ht : (pc : Int) + off = (tgt : Int)) (kt : ¬ x = 0 → mJ X d M Q tgt L st w) (kf : x = 0 → mJ X d M Q (pc + 3) L st w) : mJ X d M Q pc L (.int x :: st) w := fun p l e R s m args below meth c D cy as A H0 cells slots Z hC hX hE H locs ls hP hD hS hl => lv_if_ne hC.1 hC.2.1 hd ht (fun h => kt h p l e R s m args below meth c D cy as A H0 cells slots Z hC hX hE H locs ls hP hD hS hl) (fun h => kf h p l e R s m args below meth c D cy as A H0 cells slots Z hC hX hE H locs ls hP hD hS hl)
theorem x_icmp_ne {X : mX} {d : Nat} {M : mM} {Q : Option Value → mW → Prop} {pc : Nat} {L st : List Value} {w : mW} {x y : Int32} {off : Int} {tgt : Nat} (hd : decode M.2.1 pc = .ok (.if_icmp .ne off, 3)) (ht : (pc : Int) + off = (tgt : Int)) (kt : ¬ x = y → mJ X d M Q tgt L st w) (kf : x = y → mJ X d M Q (pc + 3) L st w) : mJ X d M Q pc L (.int y :: .int x :: st) w := fun p l e R s m args below meth c D cy as A H0 cells slots Z hC hX hE H locs ls hP hD hS hl => lv_icmp_ne hC.1 hC.2.1 hd ht (fun h => kt h p l e R s m args below meth c D cy as A H0 cells slots Z hC hX hE H locs ls hP hD hS hl) (fun h => kf h p l e R s m args below meth c D cy as A H0 cells slots Z hC hX hE H locs ls hP hD hS hl)
theorem x_if_lt {X : mX} {d : Nat} {M : mM} {Q : Option Value → mW → Prop} {pc : Nat} {L st : List Value} {w : mW} {x : Int32} {off : Int} {tgt : Nat} (hd : decode M.2.1 pc = .ok (.ifCond .lt off, 3)) (ht : (pc : Int) + off = (tgt : Int)) (kt : x < 0 → mJ X d M Q tgt L st w) (kf : ¬ x < 0 → mJ X d M Q (pc + 3) L st w) : mJ X d M Q pc L (.int x :: st) w := fun p l e R s m args below meth c D cy as A H0 cells slots Z hC hX hE H locs ls hP hD hS hl => lv_if_lt hC.1 hC.2.1 hd ht (fun h => kt h p l e R s m args below meth c D cy as A H0 cells slots Z hC hX hE H locs ls hP hD hS hl) (fun h => kf h p l e R s m args below meth c D cy as A H0 cells slots Z hC hX hE H locs ls hP hD hS hl)
theorem x_icmp_lt {X : mX} {d : Nat} {M : mM} {Q : Option Value → mW → Prop} {pc : Nat} {L st : List Value} {w : mW} {x y : Int32} {off : Int} {tgt : Nat} (hd : decode M.2.1 pc = .ok (.if_icmp .lt off, 3)) (ht : (pc : Int) + off = (tgt : Int)) (kt : x < y → mJ X d M Q tgt L st w) (kf : ¬ x < y → mJ X d M Q (pc + 3) L st w) : mJ X d M Q pc L (.int y :: .int x :: st) w := fun p l e R s m args below meth c D cy as A H0 cells slots Z hC hX hE H locs ls hP hD hS hl => lv_icmp_lt hC.1 hC.2.1 hd ht (fun h => kt h p l e R s m args below meth c D cy as A H0 cells slots Z hC hX hE H locs ls hP hD hS hl) (fun h => kf h p l e R s m args below meth c D cy as A H0 cells slots Z hC hX hE H locs ls hP hD hS hl)
theorem x_if_ge {X : mX} {d : Nat} {M : mM} {Q : Option Value → mW → Prop} {pc : Nat} {L st : List Value} {w : mW} {x : Int32} {off : Int} {tgt : Nat} (hd : decode M.2.1 pc = .ok (.ifCond .ge off, 3)) (ht : (pc : Int) + off = (tgt : Int)) (kt : 0 ≤ x → mJ X d M Q tgt L st w) (kf : ¬ 0 ≤ x → mJ X d M Q (pc + 3) L st w) : mJ X d M Q pc L (.int x :: st) w := fun p l e R s m args below meth c D cy as A H0 cells slots Z hC hX hE H locs ls hP hD hS hl => lv_if_ge hC.1 hC.2.1 hd ht (fun h => kt h p l e R s m args below meth c D cy as A H0 cells slots Z hC hX hE H locs ls hP hD hS hl) (fun h => kf h p l e R s m args below meth c D cy as A H0 cells slots Z hC hX hE H locs ls hP hD hS hl)
theorem x_icmp_ge {X : mX} {d : Nat} {M : mM} {Q : Option Value → mW → Prop} {pc : Nat} {L st : List Value} {w : mW} {x y : Int32} {off : Int} {tgt : Nat} (hd : decode M.2.1 pc = .ok (.if_icmp .ge off, 3)) (ht : (pc : Int) + off = (tgt : Int)) (kt : y ≤ x → mJ X d M Q tgt L st w) (kf : ¬ y ≤ x → mJ X d M Q (pc + 3) L st w) : mJ X d M Q pc L (.int y :: .int x :: st) w := fun p l e R s m args below meth c D cy as A H0 cells slots Z hC hX hE H locs ls hP hD hS hl => lv_icmp_ge hC.1 hC.2.1 hd ht (fun h => kt h p l e R s m args below meth c D cy as A H0 cells slots Z hC hX hE H locs ls hP hD hS hl) (fun h => kf h p l e R s m args below meth c D cy as A H0 cells slots Z hC hX hE H locs ls hP hD hS hl)
theorem x_if_gt {X : mX} {d : Nat} {M : mM} {Q : Option Value → mW → Prop} {pc : Nat} {L st : List Value} {w : mW} {x : Int32} {off : Int} {tgt : Nat} (hd : decode M.2.1 pc = .ok (.ifCond .gt off, 3)) (ht : (pc : Int) + off = (tgt : Int)) (kt : 0 < x → mJ X d M Q tgt L st w) (kf : ¬ 0 < x → mJ X d M Q (pc + 3) L st w) : mJ X d M Q pc L (.int x :: st) w := fun p l e R s m args below meth c D cy as A H0 cells slots Z hC hX hE H locs ls hP hD hS hl => lv_if_gt hC.1 hC.2.1 hd ht (fun h => kt h p l e R s m args below meth c D cy as A H0 cells slots Z hC hX hE H locs ls hP hD hS hl) (fun h => kf h p l e R s m args below meth c D cy as A H0 cells slots Z hC hX hE H locs ls hP hD hS hl)
theorem x_icmp_gt {X : mX} {d : Nat} {M : mM} {Q : Option Value → mW → Prop} {pc : Nat} {L st : List Value} {w : mW} {x y : Int32} {off : Int} {tgt : Nat} (hd : decode M.2.1 pc = .ok (.if_icmp .gt off, 3)) (ht : (pc : Int) + off = (tgt : Int)) (kt : y < x → mJ X d M Q tgt L st w) (kf : ¬ y < x → mJ X d M Q (pc + 3) L st w) : mJ X d M Q pc L (.int y :: .int x :: st) w := fun p l e R s m args below meth c D cy as A H0 cells slots Z hC hX hE H locs ls hP hD hS hl => lv_icmp_gt hC.1 hC.2.1 hd ht (fun h => kt h p l e R s m args below meth c D cy as A H0 cells slots Z hC hX hE H locs ls hP hD hS hl) (fun h => kf h p l e R s m args below meth c D cy as A H0 cells slots Z hC hX hE H locs ls hP hD hS hl)
theorem x_if_le {X : mX} {d : Nat} {M : mM} {Q : Option Value → mW → Prop} {pc : Nat} {L st : List Value} {w : mW} {x : Int32} {off : Int} {tgt : Nat} (hd : decode M.2.1 pc = .ok (.ifCond .le off, 3)) (ht : (pc : Int) + off = (tgt : Int)) (kt : x ≤ 0 → mJ X d M Q tgt L st w) (kf : ¬ x ≤ 0 → mJ X d M Q (pc + 3) L st w) : mJ X d M Q pc L (.int x :: st) w := fun p l e R s m args below meth c D cy as A H0 cells slots Z hC hX hE H locs ls hP hD hS hl => lv_if_le hC.1 hC.2.1 hd ht (fun h => kt h p l e R s m args below meth c D cy as A H0 cells slots Z hC hX hE H locs ls hP hD hS hl) (fun h => kf h p l e R s m args below meth c D cy as A H0 cells slots Z hC hX hE H locs ls hP hD hS hl)
theorem x_icmp_le {X : mX} {d : Nat} {M : mM} {Q : Option Value → mW → Prop} {pc : Nat} {L st : List Value} {w : mW} {x y : Int32} {off : Int} {tgt : Nat} (hd : decode M.2.1 pc = .ok (.if_icmp .le off, 3)) (ht : (pc : Int) + off = (tgt : Int)) (kt : x ≤ y → mJ X d M Q tgt L st w) (kf : ¬ x ≤ y → mJ X d M Q (pc + 3) L st w) : mJ X d M Q pc L (.int y :: .int x :: st) w := fun p l e R s m args below meth c D cy as A H0 cells slots Z hC hX hE H locs ls hP hD hS hl => lv_icmp_le hC.1 hC.2.1 hd ht (fun h => kt h p l e R s m args below meth c D cy as A H0 cells slots Z hC hX hE H locs ls hP hD hS hl) (fun h => kf h p l e R s m args below meth c D cy as A H0 cells slots Z hC hX hE H locs ls hP hD hS hl)
theorem x_goto {X : mX} {d : Nat} {M : mM} {Q : Option Value → mW → Prop} {pc : Nat} {L st : List Value} {w : mW} {off : Int} {tgt : Nat} (hd : decode M.2.1 pc = .ok (.goto off, 3)) (ht : (pc : Int) + off = (tgt : Int)) (k : mJ X d M Q tgt L st w) : mJ X d M Q pc L st w := fun p l e R s m args below meth c D cy as A H0 cells slots Z hC hX hE H locs ls hP hD hS hl => lv_goto hC.1 hC.2.1 hd ht (k p l e R s m args below meth c D cy as A H0 cells slots Z hC hX hE H locs ls hP hD hS hl)
theorem x_lookup {X : mX} {d : Nat} {M : mM} {Q : Option Value → mW → Prop} {pc : Nat} {L st : List Value} {w : mW} {dflt : Int} {ps : Array (Int × Int)} {len : Nat} {x : Int32} {off : Int} {tgt : Nat} (hd : decode M.2.1 pc = .ok (.lookupswitch dflt ps, len)) (hp : (ps.toList.zip (ps.toList.drop 1)).all (fun (a, next) => a.1 < next.1) = true) (ho : Op.lookupswitch.offset ps.toList dflt x.toInt = off) (ht : (pc : Int) + off = (tgt : Int)) (k : mJ X d M Q tgt L st w) : mJ X d M Q pc L (.int x :: st) w := fun p l e R s m args below meth c D cy as A H0 cells slots Z hC hX hE H locs ls hP hD hS hl => lv_lookup hC.1 hC.2.1 hd hp ho ht (k p l e R s m args below meth c D cy as A H0 cells slots Z hC hX hE H locs ls hP hD hS hl)
theorem x_tableOut {X : mX} {d : Nat} {M : mM} {Q : Option Value → mW → Prop} {pc : Nat} {L st : List Value} {w : mW} {dflt lo hi : Int} {offs : Array Int} {len : Nat} {x : Int32} {tgt : Nat} (hd : decode M.2.1 pc = .ok (.tableswitch dflt lo hi offs, len)) (h : x.toInt < lo ∨ hi < x.toInt) (ht : (pc : Int) + dflt = (tgt : Int)) (k : mJ X d M Q tgt L st w) : mJ X d M Q pc L (.int x :: st) w := fun p l e R s m args below meth c D cy as A H0 cells slots Z hC hX hE H locs ls hP hD hS hl => lv_tableOut hC.1 hC.2.1 hd h ht (k p l e R s m args below meth c D cy as A H0 cells slots Z hC hX hE H locs ls hP hD hS hl)
theorem x_tableIn {X : mX} {d : Nat} {M : mM} {Q : Option Value → mW → Prop} {pc : Nat} {L st : List Value} {w : mW} {dflt lo hi : Int} {offs : Array Int} {len : Nat} {x : Int32} {off : Int} {tgt : Nat} (hd : decode M.2.1 pc = .ok (.tableswitch dflt lo hi offs, len)) (h1 : ¬ x.toInt < lo) (h2 : ¬ hi < x.toInt) (ho : offs[(x.toInt - lo).toNat]? = some off) (ht : (pc : Int) + off = (tgt : Int)) (k : mJ X d M Q tgt L st w) : mJ X d M Q pc L (.int x :: st) w := fun p l e R s m args below meth c D cy as A H0 cells slots Z hC hX hE H locs ls hP hD hS hl => lv_tableIn hC.1 hC.2.1 hd h1 h2 ho ht (k p l e R s m args below meth c D cy as A H0 cells slots Z hC hX hE H locs ls hP hD hS hl)
theorem x_iret {X : mX} {d : Nat} {M : mM} {Q : Option Value → mW → Prop} {pc : Nat} {L st : List Value} {w : mW} {x : Int32} (hd : decode M.2.1 pc = .ok (.ireturn, 1)) {ty : FieldType} (hr : M.2.2.2 = some ty) (hn : narrow ty (.int x) = .int x) (hq : Q (some (.int x)) w) : mJ X d M Q pc L [.int x] w := fun p l e R s m args below meth c D cy as A H0 cells slots Z hC hX hE H locs ls hP hD hS hl => hE (some (.int x)) w H locs ls pc mK.rf hq hP hD hS ⟨hd, ty, hr, hn⟩
theorem x_lret {X : mX} {d : Nat} {M : mM} {Q : Option Value → mW → Prop} {pc : Nat} {L st : List Value} {w : mW} {x : Int64} (hd : decode M.2.1 pc = .ok (.lreturn, 1)) (hr : M.2.2.2 = some .long) (hq : Q (some (.long x)) w) : mJ X d M Q pc L [.long x] w := fun p l e R s m args below meth c D cy as A H0 cells slots Z hC hX hE H locs ls hP hD hS hl => hE (some (.long x)) w H locs ls pc mK.rf hq hP hD hS ⟨hd, hr⟩
theorem x_vret {X : mX} {d : Nat} {M : mM} {Q : Option Value → mW → Prop} {pc : Nat} {L st : List Value} {w : mW}  (hd : decode M.2.1 pc = .ok (.return_, 1)) (hr : M.2.2.2 = none) (hq : Q (none) w) : mJ X d M Q pc L [] w := fun p l e R s m args below meth c D cy as A H0 cells slots Z hC hX hE H locs ls hP hD hS hl => hE (none) w H locs ls pc mK.rf hq hP hD hS ⟨hd, hr⟩

-- fields: a place (own class, entry) reads or writes the field k of the class ci
def mSite (own : String) (idx ci k : Nat) (fin : Bool) (ty : FieldType) : Prop := ∃ (C : String) (T : u_T) (N : Nat) (ty0 : Nat → FieldType), vwCl[ci]? = some (C, T, N) ∧ (∀ w ∈ u_ws C T N, w ∈ mTT) ∧ k < N ∧ (∀ k, k < N → parseFieldDescriptor (T k).2.2.1 = some (ty0 k)) ∧ (∀ a, a < N → ∀ b, b < N → a ≠ b → (T a).2.1 ≠ (T b).2.1) ∧ (T k).1 = C ∧ (T k).2.2.2 = fin ∧ parseFieldDescriptor (T k).2.2.1 = some ty ∧ (Cond.fieldLink own idx C (T k).2.1 (T k).2.2.1 ∈ mTT ∨ ∃ host, Cond.fieldLinkNest own idx C (T k).2.1 (T k).2.2.1 host ∈ lw_tbl)
theorem mE_inr {w : mW} {a ci : Nat} {fs : List Value} (cy : ClassId) (as : Nat → Nat) (ha : a < mCells) (hw : w a = .inr (ci, fs)) : (mWs cy as w)[a]? = some (as a, .inr (ci, fs.map (mTr as))) := by
  rw [mWs_get _ _ _ ha, hw]; rfl
theorem mE_inl {w : mW} {a n : Nat} {f : Nat → Int32} (cy : ClassId) (as : Nat → Nat) (ha : a < mCells) (hw : w a = .inl (n, f)) : (mWs cy as w)[a]? = some (as a, .inl (cy, n, .inl f)) := by
  rw [mWs_get _ _ _ ha, hw]; rfl
theorem x_get {X : mX} {d : Nat} {M : mM} {Q : Option Value → mW → Prop} {pc : Nat} {L st : List Value} {w : mW} {idx ci k a : Nat} {fin : Bool} {ty : FieldType} {fs : List Value} {v : Value} (hs : mSite M.1.cls idx ci k fin ty) (hd : decode M.2.1 pc = .ok (.getfield idx, 3)) (ha : a < mCells) (hw : w a = .inr (ci, fs)) (hv : fs[k]? = some v) (kk : mJ X d M Q (pc + 3) L (v :: st) w) : mJ X d M Q pc L (.ref a :: st) w := by
  intro p l e R s m args below meth c D cy as A H0 cells slots Z hC hX hE H locs ls hP hD hS hl
  obtain ⟨C, T, N, ty0, h1, h2, h3, h4, h5, h6, h7, h8, h9⟩ := hs
  have he := mE_inr cy as ha hw
  have hv' : (fs.map (mTr as))[k]? = some (mTr as v) := by rw [List.getElem?_map, hv]; rfl
  rcases h9 with h9 | ⟨host, h9⟩
  · exact va_get hC.1 hC.2.1 hC.2.2.2.2.1 h2 hC.2.2.2.1 hC.2.2.2.2.2.2.1 hP a he h1 k h3 (hC.2.2.2.2.1 _ h9) (fun x hx => by rw [h6] at hx; exact hx) hv' hd (kk p l e R s m args below meth c D cy as A H0 cells slots Z hC hX hE H locs ls hP hD hS hl)
  · exact va_getN hC.1 hC.2.1 hC.2.2.2.2.1 h2 hC.2.2.2.1 hC.2.2.2.2.2.2.1 hP a he h1 k h3 (va_Nw.use rfl (hC.2.2.2.2.2.1 _ h9 rfl)) (fun x hx => by rw [h6] at hx; exact hx) hv' hd (kk p l e R s m args below meth c D cy as A H0 cells slots Z hC hX hE H locs ls hP hD hS hl)
theorem x_put {X : mX} {d : Nat} {M : mM} {Q : Option Value → mW → Prop} {pc : Nat} {L st : List Value} {w : mW} {idx ci k a : Nat} {ty : FieldType} {fs : List Value} {x : Int32} (hs : mSite M.1.cls idx ci k false ty) (hd : decode M.2.1 pc = .ok (.putfield idx, 3)) (ha : a < mCells) (hw : w a = .inr (ci, fs)) (hk : k < fs.length) (hn : narrow ty (.int x) = .int x) (hf : fits ty (.int x) = true) (kk : mJ X d M Q (pc + 3) L st (mUp w a (.inr (ci, fs.set k (.int x))))) : mJ X d M Q pc L (.int x :: .ref a :: st) w := by
  intro p l e R s m args below meth c D cy as A H0 cells slots Z hC hX hE H locs ls hP hD hS hl
  obtain ⟨C, T, N, ty0, h1, h2, h3, h4, h5, h6, h7, h8, h9⟩ := hs
  have he := mE_inr cy as ha hw
  have hset : (mWs cy as w).set a (as a, .inr (ci, (fs.map (mTr as)).set k (mTr as (.int x)))) = mWs cy as (mUp w a (.inr (ci, fs.set k (.int x)))) := by
    rw [← mWs_set cy as w ha]
    simp [mTE, List.map_set]
  rcases h9 with h9 | ⟨host, h9⟩
  · refine va_put hC.1 hC.2.1 hC.2.2.2.2.1 h2 ty0 h4 h5 hC.2.2.2.1 hC.2.2.2.2.2.2.1 hP hD hS a he h1 k h3 (hC.2.2.2.2.1 _ h9) (fun x hx => by rw [h6] at hx; exact hx) h7 h8 hn hf (by rw [List.length_map]; exact hk) hd (fun H1 locs1 hP1 hD1 hS1 => ?_)
    rw [hset] at hP1 hD1
    exact kk p l e R s m args below meth c D cy as A H0 cells slots Z hC hX (fun v w' H locs ls pc hk => hE v w' H locs ls pc (mK.tr (mK.up hw (by rfl)) hk)) H1 locs1 ls hP1 hD1 hS1 hl
  · refine va_putN hC.1 hC.2.1 hC.2.2.2.2.1 h2 ty0 h4 h5 hC.2.2.2.1 hC.2.2.2.2.2.2.1 hP hD hS a he h1 k h3 (va_Nw.use rfl (hC.2.2.2.2.2.1 _ h9 rfl)) (fun x hx => by rw [h6] at hx; exact hx) h7 h8 hn hf (by rw [List.length_map]; exact hk) hd (fun H1 locs1 hP1 hD1 hS1 => ?_)
    rw [hset] at hP1 hD1
    exact kk p l e R s m args below meth c D cy as A H0 cells slots Z hC hX (fun v w' H locs ls pc hk => hE v w' H locs ls pc (mK.tr (mK.up hw (by rfl)) hk)) H1 locs1 ls hP1 hD1 hS1 hl
theorem x_iald {X : mX} {d : Nat} {M : mM} {Q : Option Value → mW → Prop} {pc : Nat} {L st : List Value} {w : mW} {a n : Nat} {f : Nat → Int32} {i : Int32} (hd : decode M.2.1 pc = .ok (.iaload, 1)) (ha : a < mCells) (hw : w a = .inl (n, f)) (hi : vp_in i n) (kk : mJ X d M Q (pc + 1) L (.int (f i.toNatClampNeg) :: st) w) : mJ X d M Q pc L (.int i :: .ref a :: st) w :=
  fun p l e R s m args below meth c D cy as A H0 cells slots Z hC hX hE H locs ls hP hD hS hl => va_iald hC.1 hC.2.1 hC.2.2.2.2.2.2.1 hP a 0 (mE_inl cy as ha hw) rfl hi hd (kk p l e R s m args below meth c D cy as A H0 cells slots Z hC hX hE H locs ls hP hD hS hl)
theorem x_iast {X : mX} {d : Nat} {M : mM} {Q : Option Value → mW → Prop} {pc : Nat} {L st : List Value} {w : mW} {a n : Nat} {f : Nat → Int32} {i x : Int32} (hd : decode M.2.1 pc = .ok (.iastore, 1)) (ha : a < mCells) (hw : w a = .inl (n, f)) (hi : vp_in i n) (kk : mJ X d M Q (pc + 1) L st (mUp w a (.inl (n, upd f i.toNatClampNeg x)))) : mJ X d M Q pc L (.int x :: .int i :: .ref a :: st) w := by
  intro p l e R s m args below meth c D cy as A H0 cells slots Z hC hX hE H locs ls hP hD hS hl
  refine va_iast hC.1 hC.2.1 hC.2.2.2.2.2.2.1 hP hD hS a 0 (mE_inl cy as ha hw) rfl hi hd (fun H1 locs1 hP1 hD1 hS1 => ?_)
  have hset : (mWs cy as w).set a (as a, .inl (cy, n, .inl (upd f i.toNatClampNeg x))) = mWs cy as (mUp w a (.inl (n, upd f i.toNatClampNeg x))) := mWs_set cy as w ha (.inl (n, upd f i.toNatClampNeg x))
  rw [hset] at hP1 hD1
  exact kk p l e R s m args below meth c D cy as A H0 cells slots Z hC hX (fun v w' H locs ls pc hk => hE v w' H locs ls pc (mK.tr (mK.up hw (by rfl)) hk)) H1 locs1 ls hP1 hD1 hS1 hl
-- calls
theorem mPc_blind {D : va_G} {cy : ClassId} {as : Nat → Nat} {sz : Nat} {w : mW} {av : List Value} : FrameBlind (va_Pc av (mPre D cy as sz w)) := by
  intro a U g mk q
  obtain ⟨q0, q1, qP, qK, qD, qN⟩ := q
  exact ⟨q0, q1, qP, va_K.moved (u := U) (U := U.calling g mk a) (Vm.Alike.refl U.vm) qK, qD, mNW.same (u := U) (U := U.calling g mk a) rfl qN⟩
theorem mPc_at {D : va_G} {cy : ClassId} {as : Nat → Nat} {w : mW} {av : List Value} {A : Nat → Prop} {s : State} {H : Heap} (hP : va_P D vwCl (mWs cy as w) H) (hD : va_D A (mWs cy as w)) (hK : va_K D vwCl [(cy, .int)] s) (hN : mNW s) : ∀ U : State, U.heap = H → s.WarmedH U.vm → va_Pc av (mPre D cy as H.size w) av.toArray U :=
  fun U hU hW => ⟨rfl, by rw [hU], by rw [hU]; exact hP, va_K.moved hW.alike hK, hD.weaken (fun _ _ _ _ => trivial), hN.warm hW⟩
theorem mFree {D : va_G} {cy : ClassId} {as : Nat → Nat} {w : mW} {A : Nat → Prop} {H0 H : Heap} {locs : List Loc} (hD : va_D A (mWs cy as w)) (hS : va_S A H0 H locs) (hA : ∀ q, H0.size ≤ q → A q) : ∀ q, va_A (mWs cy as w) H.size q → A q := by
  intro q h
  rcases h with ⟨k, e, h⟩ | h
  · exact hD.2 k (q, e) h
  · exact hA q (Nat.le_trans hS.1 h)
theorem mCallX {p : Program} {l : Launch} {e : Env} {R : Room} {s : State} {m : MethodId} {args : Array Value} {below : List Frame} {meth : Method} {c : Code} {H : Heap} {locs : List Loc} {cells slots : Nat} {Z : State → Prop} {pc : Nat} {ls : Array Slot} {rest st0 : List Value} {a : Array Value} {A : Nat → Prop} {H0 : Heap} {Q : Option Value → mW → Prop} {D : va_G} {cy : ClassId} {as : Nat → Nat} {w : mW}
    (hr : va_Run p l e R s m args below meth c H locs cells slots 0 0 (F0 m pc ls st0) rest (mQc Q D cy as (va_A (mWs cy as w) H.size) a) (va_A (mWs cy as w) H.size)) (hD : va_D A (mWs cy as w)) (hS : va_S A H0 H locs) (hA : ∀ q, H0.size ≤ q → A q)
    (kk : ∀ (v : Option Value) (w' : mW) (H1 : Heap) (locs1 : List Loc), Q v w' → va_P D vwCl (mWs cy as w') H1 → va_D A (mWs cy as w') → va_S A H0 H1 locs1 → W p l e R s m args below meth c H1 locs1 cells slots Z (F0 m (pc + 3) ls ((v.map (mTr as)).toList ++ rest))) : W p l e R s m args below meth c H locs cells slots Z (F0 m pc ls st0) := by
  intro T hT X
  obtain ⟨v, st₀, t, T', L, h0, X', hL, e1, e2, ⟨⟨v', w', hv, hq, hP1, hK1, hD1⟩, hz, hk⟩, st⟩ := hr T hT X
  cases hv
  rw [h0] at hz hk
  have hf := mFree (D := D) hD hS hA
  obtain ⟨t2, a1, b1⟩ := kk v' w' T'.heap (locs ++ L) hq (by rw [e1]; exact hP1) (hD1.weaken (fun k q _ h => hf q.1 h))
    ⟨Nat.le_trans hS.1 (by rw [e1]; exact hz), fun q h1 h2 => by rw [e1, hk q (Nat.lt_of_lt_of_le h1 hS.1) (fun z => h2 (hf q z))]; exact hS.2.1 q h1 h2, fun q hq => by
      rcases List.mem_append.mp hq with h | h
      · exact hS.2.2 q h
      · exact hf _ (hL q h)⟩ T' rfl X'
  exact ⟨t2, st t2 a1, b1⟩
def mVirt (own : String) (idx : Nat) (M' : mM) (ci n : Nat) : Prop := mOK M' ∧ (Cond.methodLink own idx M'.1 ∈ mTT ∨ ∃ host, Cond.methodLinkNest own idx M'.1 host ∈ lw_tbl) ∧ Cond.instanceMethod M'.1 ∈ mTT ∧ Cond.selects M'.1.cls M'.1 M'.1 ∈ mTT ∧ (parseMethodDescriptor M'.1.desc).map (fun d => d.parameters.length) = some n ∧ ∃ q, vwCl[ci]? = some q ∧ q.1 = M'.1.cls
def mStat (own : String) (idx : Nat) (M' : mM) (n : Nat) : Prop := mOK M' ∧ (Cond.methodLink own idx M'.1 ∈ mTT ∨ ∃ host, Cond.methodLinkNest own idx M'.1 host ∈ lw_tbl) ∧ Cond.static M'.1 ∈ mTT ∧ (parseMethodDescriptor M'.1.desc).map (fun d => d.parameters.length) = some n
theorem x_virtT {X : mX} {d : Nat} {M : mM} {Q : Option Value → mW → Prop} {pc : Nat} {L st : List Value} {w : mW} {idx ci n a : Nat} {M' : mM} {As fs : List Value} {Q' : Option Value → mW → Prop} (hs : mVirt M.1.cls idx M' ci n) (hd : decode M.2.1 pc = .ok (.invokevirtual idx, 3)) (ha : a < mCells) (hw : w a = .inr (ci, fs)) (hn : As.length = n) (hr : (st.map fun v => v.category).sum ≤ 8) {st0 : List Value} (hst : As.reverse ++ .ref a :: st = st0) (hM : mC d M' (.ref a :: As) w Q') (kk : ∀ v w', mTy M' v → mK w w' → Q' v w' → mJ X (d + 1) M Q (pc + 3) L (v.toList ++ st) w') : mJ X (d + 1) M Q pc L st0 w := by
  intro p l e R s m args below meth c D cy as A H0 cells slots Z hC hX hE H locs ls hP hD hS hl
  obtain ⟨hOK, hlink, hinst, hsel, hpar, q, hq1, hq2⟩ := hs
  have hts := hC.2.2.2.2.1
  have hfr : (mRm d).frames + 1 ≤ R.frames := hC.2.2.2.2.2.2.2.2.1
  have hlo : 8 + (M'.2.2.1 + 11) + (mRm d).locals ≤ R.locals := by
    have h1 := hC.2.2.2.2.2.2.2.2.2.1
    have h2 := hOK.2.2.2.2
    show 8 + (M'.2.2.1 + 11) + 40 * d ≤ R.locals
    omega
  have hini : (Cond.initialized M'.1.cls).before args s = true := hts _ (mTT_mem hOK.2.2.1 rfl)
  have hrec : ∃ cell : Cell, H[as a]? = some cell ∧ cell.vm.isStatics = false ∧ s.vm.findClass M'.1.cls = some cell.cls := by
    rw [← hq2]; exact va_recv hC.2.2.2.2.2.2.1 hP hq1 (mE_inr cy as ha hw)
  have hpre := mPc_at (av := (Value.ref a :: As).map (mTr as)) hP hD hC.2.2.2.2.2.2.1 hC.2.2.2.2.2.1
  have hcells : cells + 0 ≤ R.cells ∧ slots + 0 ≤ R.slots := hC.2.2.2.2.2.2.2.2.2.2
  subst hst
  have hstk : (As.reverse ++ .ref a :: st).map (mTr as) = (As.map (mTr as)).reverse ++ .ref (as a) :: st.map (mTr as) := by simp [mTr]
  have hrest : ((st.map (mTr as)).map fun v => v.category).sum ≤ 8 := by rw [List.map_map]; simpa [Function.comp_def, mTr_cat] using hr
  rw [hstk]
  have hrun : va_Run p l e R s m args below meth c H locs cells slots 0 0 (F0 m pc ls ((As.map (mTr as)).reverse ++ .ref (as a) :: st.map (mTr as))) (st.map (mTr as)) (mQc (fun v w' => (mTy M' v ∧ mK w w') ∧ Q' v w') D cy as (va_A (mWs cy as w) H.size) (Value.ref (as a) :: As.map (mTr as)).toArray) (va_A (mWs cy as w) H.size) := by
    rcases hlink with hlink | ⟨host, hlink⟩
    · exact va_runV (C := M'.1.cls) (n := n) ⟨hC.1, hC.2.1, hC.2.2.1, hC.2.2.2.1, hts⟩ (hM l D cy as H.size) ⟨callB_of n hts (mGood hOK) rfl rfl rfl hini (hts _ hlink) ⟨hOK.2.2.2.1.1, hOK.2.2.2.1.2, hpar⟩ ⟨hfr, hlo⟩, hts _ hinst, hts _ hsel⟩ ⟨mPc_blind, hrec, hpre⟩ rfl (by rw [List.length_map]; exact hn) hl.1 rfl (lv_room hrest) hd hcells
    · exact va_runVN (C := M'.1.cls) (n := n) ⟨hC.1, hC.2.1, hC.2.2.1, hC.2.2.2.1, hts⟩ (hM l D cy as H.size) ⟨va_cnB n hts (mGood hOK) rfl rfl rfl (hC.2.2.2.2.2.1 _ hlink rfl) hini ⟨hOK.2.2.2.1.1, hOK.2.2.2.1.2, hpar⟩ ⟨hfr, hlo⟩, hts _ hinst, hts _ hsel⟩ ⟨mPc_blind, hrec, hpre⟩ rfl (by rw [List.length_map]; exact hn) hl.1 rfl (lv_room hrest) hd hcells
  refine mCallX hrun hD hS hC.2.2.2.2.2.2.2.1 (fun v w' H1 locs1 hq hP1 hD1 hS1 => ?_)
  have h9 := kk v w' hq.1.1 hq.1.2 hq.2 p l e R s m args below meth c D cy as A H0 cells slots Z hC hX (fun v w2 H locs ls pc hk => hE v w2 H locs ls pc (mK.tr hq.1.2 hk)) H1 locs1 ls hP1 hD1 hS1 hl
  cases v <;> simpa using h9
theorem x_virt {X : mX} {d : Nat} {M : mM} {Q : Option Value → mW → Prop} {pc : Nat} {L st : List Value} {w : mW} {idx ci n a : Nat} {M' : mM} {As fs : List Value} {Q' : Option Value → mW → Prop} (hs : mVirt M.1.cls idx M' ci n) (hd : decode M.2.1 pc = .ok (.invokevirtual idx, 3)) (ha : a < mCells) (hw : w a = .inr (ci, fs)) (hn : As.length = n) (hr : (st.map fun v => v.category).sum ≤ 8) {st0 : List Value} (hst : As.reverse ++ .ref a :: st = st0) (hM : mC d M' (.ref a :: As) w Q') (kk : ∀ v w', Q' v w' → mJ X (d + 1) M Q (pc + 3) L (v.toList ++ st) w') : mJ X (d + 1) M Q pc L st0 w := x_virtT hs hd ha hw hn hr hst hM (fun v w' _ _ h => kk v w' h)
theorem x_stat {X : mX} {d : Nat} {M : mM} {Q : Option Value → mW → Prop} {pc : Nat} {L st : List Value} {w : mW} {idx n : Nat} {M' : mM} {As : List Value} {Q' : Option Value → mW → Prop} (hs : mStat M.1.cls idx M' n) (hd : decode M.2.1 pc = .ok (.invokestatic idx, 3)) (hn : As.length = n) (hr : (st.map fun v => v.category).sum ≤ 8) {st0 : List Value} (hst : As.reverse ++ st = st0) (hM : mC d M' As w Q') (kk : ∀ v w', Q' v w' → mJ X (d + 1) M Q (pc + 3) L (v.toList ++ st) w') : mJ X (d + 1) M Q pc L st0 w := by
  intro p l e R s m args below meth c D cy as A H0 cells slots Z hC hX hE H locs ls hP hD hS hl
  obtain ⟨hOK, hlink, hstat, hpar⟩ := hs
  have hts := hC.2.2.2.2.1
  have hfr : (mRm d).frames + 1 ≤ R.frames := hC.2.2.2.2.2.2.2.2.1
  have hlo : 8 + (M'.2.2.1 + 11) + (mRm d).locals ≤ R.locals := by
    have h1 := hC.2.2.2.2.2.2.2.2.2.1
    have h2 := hOK.2.2.2.2
    show 8 + (M'.2.2.1 + 11) + 40 * d ≤ R.locals
    omega
  have hini : (Cond.initialized M'.1.cls).before args s = true := hts _ (mTT_mem hOK.2.2.1 rfl)
  have hpre := mPc_at (av := As.map (mTr as)) hP hD hC.2.2.2.2.2.2.1 hC.2.2.2.2.2.1
  have hcells : cells + 0 ≤ R.cells ∧ slots + 0 ≤ R.slots := hC.2.2.2.2.2.2.2.2.2.2
  subst hst
  have hstk : (As.reverse ++ st).map (mTr as) = (As.map (mTr as)).reverse ++ st.map (mTr as) := by simp
  have hrest : ((st.map (mTr as)).map fun v => v.category).sum ≤ 8 := by rw [List.map_map]; simpa [Function.comp_def, mTr_cat] using hr
  rw [hstk]
  have hrun : va_Run p l e R s m args below meth c H locs cells slots 0 0 (F0 m pc ls ((As.map (mTr as)).reverse ++ st.map (mTr as))) (st.map (mTr as)) (mQc (fun v w' => (mTy M' v ∧ mK w w') ∧ Q' v w') D cy as (va_A (mWs cy as w) H.size) (As.map (mTr as)).toArray) (va_A (mWs cy as w) H.size) := by
    rcases hlink with hlink | ⟨host, hlink⟩
    · exact va_runS (n := n) ⟨hC.1, hC.2.1, hC.2.2.1, hC.2.2.2.1, hts⟩ (hM l D cy as H.size) ⟨callB_of n hts (mGood hOK) rfl rfl rfl hini (hts _ hlink) ⟨hOK.2.2.2.1.1, hOK.2.2.2.1.2, hpar⟩ ⟨hfr, hlo⟩, hts _ hstat⟩ ⟨mPc_blind, hpre⟩ rfl (by rw [List.length_map]; exact hn) hl.1 rfl (lv_room hrest) hd hcells
    · exact va_runSN (n := n) ⟨hC.1, hC.2.1, hC.2.2.1, hC.2.2.2.1, hts⟩ (hM l D cy as H.size) ⟨va_cnB n hts (mGood hOK) rfl rfl rfl (hC.2.2.2.2.2.1 _ hlink rfl) hini ⟨hOK.2.2.2.1.1, hOK.2.2.2.1.2, hpar⟩ ⟨hfr, hlo⟩, hts _ hstat, trivial⟩ ⟨mPc_blind, hpre⟩ rfl (by rw [List.length_map]; exact hn) hl.1 rfl (lv_room hrest) hd hcells
  refine mCallX hrun hD hS hC.2.2.2.2.2.2.2.1 (fun v w' H1 locs1 hq hP1 hD1 hS1 => ?_)
  have h9 := kk v w' hq.2 p l e R s m args below meth c D cy as A H0 cells slots Z hC hX (fun v w2 H locs ls pc hk => hE v w2 H locs ls pc (mK.tr hq.1.2 hk)) H1 locs1 ls hP1 hD1 hS1 hl
  cases v <;> simpa using h9
