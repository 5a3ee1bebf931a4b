/-! CONSTRUCTORS: the world grows; cells are numbered as they are made -/
def cloB (n : Nat) : Value → Bool
  | .ref i => decide (i < n) || decide (i = 100)
  | _ => true
def cloE (n : Nat) : mE → Bool
  | .inl _ => true
  | .inr o => o.2.all (cloB n)
def agr (n : Nat) (as as' : Nat → Nat) : Prop := ∀ i, i < n ∨ i = 100 → as' i = as i
theorem agr.rf {n : Nat} {as : Nat → Nat} : agr n as as := fun _ _ => rfl
theorem agr.le {n m : Nat} {as as' : Nat → Nat} (h : agr m as as') (hn : n ≤ m) : agr n as as' := fun i hi => h i (hi.elim (fun q => Or.inl (by omega)) Or.inr)
theorem agr.tr {n : Nat} {as as' as'' : Nat → Nat} (h : agr n as as') (h' : agr n as' as'') : agr n as as'' := fun i hi => (h' i hi).trans (h i hi)
theorem agr.v {n : Nat} {as as' : Nat → Nat} (h : agr n as as') {v : Value} (hv : cloB n v = true) : mTr as' v = mTr as v := by
  cases v with
  | ref i =>
    simp only [cloB, Bool.or_eq_true, decide_eq_true_eq] at hv
    show Value.ref (as' i) = Value.ref (as i)
    rw [h i hv]
  | _ => rfl
theorem agr.vs {n : Nat} {as as' : Nat → Nat} (h : agr n as as') {l : List Value} (hl : l.all (cloB n) = true) : l.map (mTr as') = l.map (mTr as) :=
  List.map_congr_left fun v hv => h.v (List.all_eq_true.mp hl v hv)
theorem agr.e {n : Nat} {as as' : Nat → Nat} (h : agr n as as') {e : mE} (he : cloE n e = true) (cy : ClassId) : mTE cy as' e = mTE cy as e := by
  cases e with
  | inl a => rfl
  | inr o =>
    show Sum.inr (o.1, o.2.map (mTr as')) = Sum.inr (o.1, o.2.map (mTr as))
    rw [h.vs he]
theorem agr.loc {n : Nat} {as as' : Nat → Nat} (h : agr n as as') {L : List Value} (hL : L.all (cloB n) = true) {ls : Array Slot} {nL : Nat} (hl : mLoc as ls nL L) : mLoc as' ls nL L :=
  ⟨hl.1, hl.2.1, fun i v hi hv => by rw [h.v (List.all_eq_true.mp hL v (List.mem_of_getElem? hi))]; exact hl.2.2 i v hi hv⟩
def kWs (cy : ClassId) (as : Nat → Nat) (W : List mE) : va_W := W.mapIdx (fun i e => (as i, mTE cy as e))
theorem kWs_get {cy : ClassId} {as : Nat → Nat} {W : List mE} {i : Nat} {e : mE} (h : W[i]? = some e) : (kWs cy as W)[i]? = some (as i, mTE cy as e) := by
  unfold kWs; rw [List.getElem?_mapIdx, h]; rfl
theorem kWs_set {cy : ClassId} {as : Nat → Nat} {W : List mE} {i : Nat} (h : i < W.length) (e : mE) : (kWs cy as W).set i (as i, mTE cy as e) = kWs cy as (W.set i e) := by
  apply List.ext_getElem?
  intro j
  unfold kWs
  rw [List.getElem?_mapIdx]
  by_cases hij : i = j
  · subst hij
    rw [List.getElem?_set_self (by simpa using h), List.getElem?_set_self h]; rfl
  · rw [List.getElem?_set_ne hij, List.getElem?_set_ne hij, List.getElem?_mapIdx]
theorem kWs_ag {cy : ClassId} {as as' : Nat → Nat} {W : List mE} {n : Nat} (h : agr n as as') (hn : W.length ≤ n) (hW : W.all (cloE n) = true) : kWs cy as' W = kWs cy as W := by
  apply List.ext_getElem?
  intro j
  unfold kWs
  rw [List.getElem?_mapIdx, List.getElem?_mapIdx]
  cases hj : W[j]? with
  | none => rfl
  | some e =>
    have hlt := (List.getElem?_eq_some_iff.mp hj).1
    show some (as' j, mTE cy as' e) = some (as j, mTE cy as e)
    rw [h j (Or.inl (by omega)), h.e (List.all_eq_true.mp hW e (List.mem_of_getElem? hj))]
theorem kWs_push {cy : ClassId} {as : Nat → Nat} {W : List mE} {e : mE} : kWs cy as (W ++ [e]) = kWs cy as W ++ [(as W.length, mTE cy as e)] := by
  unfold kWs; rw [List.mapIdx_append]; simp
def kAs (as : Nat → Nat) (n q : Nat) : Nat → Nat := fun i => if i = n then q else as i
theorem kAs_ag {as : Nat → Nat} {n q : Nat} (hn : n < 100) : agr n as (kAs as n q) := by
  intro i hi
  unfold kAs
  rw [if_neg (by omega)]
theorem kAs_n {as : Nat → Nat} {n q : Nat} : kAs as n q n = q := by unfold kAs; rw [if_pos rfl]
def kRm (d mc ms : Nat) : Room := { frames := d, cells := mc, slots := ms, locals := 40 * d }
def kPre (D : va_G) (cy : ClassId) (as : Nat → Nat) (sz : Nat) (W : List mE) (U : State) : Prop := U.heap.size = sz ∧ va_P D vwCl (kWs cy as W) U.heap ∧ va_K D vwCl [(cy, .int)] U ∧ va_D (fun _ => True) (kWs cy as W) ∧ mNW U
def kC (d : Nat) (M : mM) (av : List Value) (W : List mE) (mc ms : Nat) (W' : List mE) : Prop :=
  ∀ (l : Launch) (D : va_G) (cy : ClassId) (as : Nat → Nat) (sz : Nat), Met l M.1 (mWd M) (kRm d mc ms) (va_Pc (av.map (mTr as)) (kPre D cy as sz W)) (va_Qv (fun as' : Nat → Nat => agr W.length as as') (fun as' t => va_P D vwCl (kWs cy as' W') t.heap ∧ va_K D vwCl [(cy, .int)] t ∧ va_D (va_A (kWs cy as W) sz) (kWs cy as' W')) (va_A (kWs cy as W) sz)) mc ms (va_A (kWs cy as W) sz)
def kCx (d : Nat) (M : mM) (Mc Ms : Nat) (p : Program) (R : Room) (s : State) (m : MethodId) (args : Array Value) (meth : Method) (c : Code) (D : va_G) (cy : ClassId) (A : Nat → Prop) (H0 : Heap) : Prop :=
  p.tables.exec = Jvm.exec ∧ c.code = M.2.1 ∧ c.maxLocals = M.2.2.1 ∧ s.vm.findClass M.1.cls = some m.cls ∧ (∀ w ∈ mTT, w.before args s = true) ∧ mNW s ∧ va_K D vwCl [(cy, .int)] s ∧ (∀ q, H0.size ≤ q → A q) ∧ d ≤ R.frames ∧ 40 * d ≤ R.locals ∧ Mc ≤ R.cells ∧ Ms ≤ R.slots ∧ meth.name = "<init>"
def kJ (d : Nat) (M : mM) (Mc Ms : Nat) (W' : List mE) (pc : Nat) (L st : List Value) (W0 : List mE) (cs sl : Nat) : Prop :=
  ∀ (p : Program) (l : Launch) (e : Env) (R : Room) (s : State) (m : MethodId) (args : Array Value) (below : List Frame) (meth : Method) (c : Code) (D : va_G) (cy : ClassId) (as : Nat → Nat) (A : Nat → Prop) (H0 : Heap) (Z : State → Prop),
    kCx d M Mc Ms p R s m args meth c D cy A H0 →
    (∀ (as' : Nat → Nat) (H : Heap) (locs : List Loc) (ls : Array Slot) (pc : Nat), agr W0.length as as' → va_P D vwCl (kWs cy as' W') H → va_D A (kWs cy as' W') → va_S A H0 H locs → decode M.2.1 pc = .ok (.return_, 1) → W p l e R s m args below meth c H locs Mc Ms Z (F0 m pc ls [])) →
    ∀ (H : Heap) (locs : List Loc) (ls : Array Slot), va_P D vwCl (kWs cy as W0) H → va_D A (kWs cy as W0) → va_S A H0 H locs → mLoc as ls M.2.2.1 L → W p l e R s m args below meth c H locs cs sl Z (F0 m pc ls (st.map (mTr as)))
theorem kC.of {d : Nat} {M : mM} {i : Nat} {W0 W' : List mE} {mc ms : Nat} (hOK : mOK M) (hn : M.2.2.1 = 1) (hr : M.2.2.2 = none) (hi : M.1.name = "<init>") (h : kJ d M mc ms W' 0 [.ref i] [] W0 0 0) : kC d M [.ref i] W0 mc ms W' := by
  intro l D cy as sz
  refine Met.ofW (cc := M.2.1) (maxL := M.2.2.1) (ret := M.2.2.2) hOK.2.1 rfl ?_
  intro p e s m args below meth c s₁ B hml hv
  obtain ⟨rfl, hsz, hP, hK, hD0, hN⟩ := hv
  have hts := atoms_spec (ws := mWd M) B.pre
  have hown : s.vm.findClass M.1.cls = some m.cls := findClass_of_methodNamed B.named
  have hlocks := B.notSynchronized
  have hin : meth.name = "<init>" := ((name_of_methodNamed B.named B.method).1).trans hi
  subst hsz
  have hD := hD0.self (sz := s.heap.size)
  have hA : ∀ q : Nat, s.heap.size ≤ q → va_A (kWs cy as W0) s.heap.size q := fun q h => Or.inr h
  have hS : va_S (va_A (kWs cy as W0) s.heap.size) s.heap s.heap [] := va_S.rf
  have hl := lv_entry ([Value.ref i].map (mTr as)) (n := M.2.2.1) (by rw [hn]; exact Nat.le_refl 1)
  rw [lg_entry_eq]
  generalize (lg_sl ([Value.ref i].map (mTr as)) ++ List.replicate (M.2.2.1 - (lg_sl ([Value.ref i].map (mTr as))).length) Slot.unset).toArray = ls at hl ⊢
  refine h p l e (headSpec (mWd M) (kRm d mc ms)).room s m _ below meth c D cy as (va_A (kWs cy as W0) s.heap.size) s.heap _ ⟨B.exec, B.bytes, hml, hown, fun w hw => hts w (List.mem_cons_of_mem _ hw), hN, hK, hA, Nat.le_refl _, Nat.le_refl _, Nat.le_refl _, Nat.le_refl _, hin⟩ ?_ s.heap [] ls hP hD hS ⟨hl.1, hl.2.1, fun j v hj hv => ?_⟩
  · intro as' H locs ls pc hag hP hD hS hd
    exact W.vret B.exec B.bytes (B.returns.trans hr) (fun t ht hW => ⟨⟨as', rfl, hag, by rw [ht]; exact hP, va_K.moved hW.alike hK, hD⟩, hS.F ht⟩) hS.2.2 hd hlocks
  · match j, hj with
    | 0, hj => cases hj; exact hl.2.2 (0, _) List.mem_cons_self
section KR
variable {d : Nat} {M : mM} {Mc Ms : Nat} {W' : List mE} {pc : Nat} {L st : List Value} {W0 : List mE} {cs sl : Nat}
theorem k_aload {i : Nat} (hd : decode M.2.1 pc = .ok (.aload_n 0, 1)) (hL : L[0]? = some (.ref i)) (k : kJ d M Mc Ms W' (pc + 1) L (.ref i :: st) W0 cs sl) : kJ d M Mc Ms W' pc L st W0 cs sl :=
  fun p l e R s m args below meth c D cy as A H0 Z hC hE H locs ls hP hD hS hl => lv_aload_n hC.1 hC.2.1 hd rfl (x := as i) (hl.2.2 _ _ hL (fun q => by cases q)) (k p l e R s m args below meth c D cy as A H0 Z hC hE H locs ls hP hD hS hl)
theorem k_iconst {n : Int} {v : Int32} (hd : decode M.2.1 pc = .ok (.iconst n, 1)) (hv : Int32.ofInt n = v) (k : kJ d M Mc Ms W' (pc + 1) L (.int v :: st) W0 cs sl) : kJ d M Mc Ms W' pc L st W0 cs sl :=
  fun p l e R s m args below meth c D cy as A H0 Z hC hE H locs ls hP hD hS hl => lv_iconst hC.1 hC.2.1 hd hv (k p l e R s m args below meth c D cy as A H0 Z hC hE H locs ls hP hD hS hl)
theorem k_bipush {n : Int} {v : Int32} (hd : decode M.2.1 pc = .ok (.bipush n, 2)) (hv : (Int8.ofInt n).toInt32 = v) (k : kJ d M Mc Ms W' (pc + 2) L (.int v :: st) W0 cs sl) : kJ d M Mc Ms W' pc L st W0 cs sl :=
  fun p l e R s m args below meth c D cy as A H0 Z hC hE H locs ls hP hD hS hl => lv_bipush hC.1 hC.2.1 hd hv (k p l e R s m args below meth c D cy as A H0 Z hC hE H locs ls hP hD hS hl)
theorem k_sipush {n : Int} {v : Int32} (hd : decode M.2.1 pc = .ok (.sipush n, 3)) (hv : (Int16.ofInt n).toInt32 = v) (k : kJ d M Mc Ms W' (pc + 3) L (.int v :: st) W0 cs sl) : kJ d M Mc Ms W' pc L st W0 cs sl :=
  fun p l e R s m args below meth c D cy as A H0 Z hC hE H locs ls hP hD hS hl => lv_sipush hC.1 hC.2.1 hd hv (k p l e R s m args below meth c D cy as A H0 Z hC hE H locs ls hP hD hS hl)
theorem k_dup {a : Value} (hd : decode M.2.1 pc = .ok (.dup, 1)) (ha : a.category = 1) (k : kJ d M Mc Ms W' (pc + 1) L (a :: a :: st) W0 cs sl) : kJ d M Mc Ms W' pc L (a :: st) W0 cs sl :=
  fun p l e R s m args below meth c D cy as A H0 Z hC hE H locs ls hP hD hS hl => lv_dup hC.1 hC.2.1 hd ((mTr_cat as a).trans ha) (k p l e R s m args below meth c D cy as A H0 Z hC hE H locs ls hP hD hS hl)
theorem k_ret (hd : decode M.2.1 pc = .ok (.return_, 1)) (hW : W0 = W') (h1 : cs ≤ Mc) (h2 : sl ≤ Ms) : kJ d M Mc Ms W' pc L [] W0 cs sl := by
  intro p l e R s m args below meth c D cy as A H0 Z hC hE H locs ls hP hD hS hl
  subst hW
  exact W.widen h1 h2 (hE as H locs ls pc agr.rf hP hD hS hd)
theorem k_obj {i idx : Nat} (hn : M.2.2.1 = 1) (hl1 : Cond.methodLink M.1.cls idx objectInit ∈ mTT) (hl2 : Cond.instanceMethod objectInit ∈ mTT) (hl3 : Cond.code objectInit ⟨#[0xb1]⟩ 1 none ∈ mTT) (hd : decode M.2.1 pc = .ok (.invokespecial idx, 3)) (hst : st = []) (k : kJ (d + 1) M Mc Ms W' (pc + 3) L st W0 cs sl) : kJ (d + 1) M Mc Ms W' pc L (.ref i :: st) W0 cs sl := by
  intro p l e R s m args below meth c D cy as A H0 Z hC hE H locs ls hP hD hS hl
  subst hst
  have hts := hC.2.2.2.2.1
  have h1 := hC.2.2.2.2.2.2.2.2.1
  have h2 := hC.2.2.2.2.2.2.2.2.2.1
  refine W.objInit hC.1 hC.2.1 hC.2.2.2.1 (hts _ hl1) (hts _ hl2) (hts _ hl3) rfl (by rw [hC.2.2.1]; exact hl.1) rfl hd (by omega) (by show _ ≤ R.locals; simp; omega) ?_
  exact k p l e R s m args below meth c D cy as A H0 Z hC hE H locs ls hP hD hS hl
end KR

