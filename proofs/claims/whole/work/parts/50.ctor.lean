/-! CONSTRUCTORS: the world grows; cells are numbered as they are made -/
def cloB (n : Nat) : Value → Bool
  | .ref i => decide (i < n) || decide (i = 100)
  | _ => true
def cloE (n : Nat) : mE → Bool
  | .inl _ => true
  | .inr o => o.2.all (cloB n)
def agr (n : Nat) (as as' : Nat → Nat) : Prop := ∀ i, i < n ∨ i = 100 → as' i = as i
theorem agr.rf {n : Nat} {as : Nat → Nat} : agr n as as := fun _ _ => rfl
theorem agr.le {n m : Nat} {as as' : Nat → Nat} (h : agr m as as') (hn : n ≤ m) : agr n as as' := fun i hi => h i (hi.elim (fun q => Or.inl (by omega)) Or.inr)
theorem agr.tr {n : Nat} {as as' as'' : Nat → Nat} (h : agr n as as') (h' : agr n as' as'') : agr n as as'' := fun i hi => (h' i hi).trans (h i hi)
theorem agr.v {n : Nat} {as as' : Nat → Nat} (h : agr n as as') {v : Value} (hv : cloB n v = true) : mTr as' v = mTr as v := by
  cases v with
  | ref i =>
    simp only [cloB, Bool.or_eq_true, decide_eq_true_eq] at hv
    show Value.ref (as' i) = Value.ref (as i)
    rw [h i hv]
  | _ => rfl
theorem agr.vs {n : Nat} {as as' : Nat → Nat} (h : agr n as as') {l : List Value} (hl : l.all (cloB n) = true) : l.map (mTr as') = l.map (mTr as) :=
  List.map_congr_left fun v hv => h.v (List.all_eq_true.mp hl v hv)
theorem agr.e {n : Nat} {as as' : Nat → Nat} (h : agr n as as') {e : mE} (he : cloE n e = true) (cy : ClassId) : mTE cy as' e = mTE cy as e := by
  cases e with
  | inl a => rfl
  | inr o =>
    show Sum.inr (o.1, o.2.map (mTr as')) = Sum.inr (o.1, o.2.map (mTr as))
    rw [h.vs he]
theorem agr.loc {n : Nat} {as as' : Nat → Nat} (h : agr n as as') {L : List Value} (hL : L.all (cloB n) = true) {ls : Array Slot} {nL : Nat} (hl : mLoc as ls nL L) : mLoc as' ls nL L :=
  ⟨hl.1, hl.2.1, fun i v hi hv => by rw [h.v (List.all_eq_true.mp hL v (List.mem_of_getElem? hi))]; exact hl.2.2 i v hi hv⟩
def kWs (cy : ClassId) (as : Nat → Nat) (n : Nat) (w : mW) : va_W := (List.range n).map (fun i => (as i, mTE cy as (w i)))
theorem kWs_get {cy : ClassId} {as : Nat → Nat} {n : Nat} {w : mW} {i : Nat} {e : mE} (hi : i < n) (h : w i = e) : (kWs cy as n w)[i]? = some (as i, mTE cy as e) := by
  unfold kWs; rw [List.getElem?_map, List.getElem?_range hi, ← h]; rfl
theorem kWs_set {cy : ClassId} {as : Nat → Nat} {n : Nat} {w : mW} {i : Nat} (h : i < n) (e : mE) : (kWs cy as n w).set i (as i, mTE cy as e) = kWs cy as n (mUp w i e) := by
  apply List.ext_getElem?
  intro j
  by_cases hj : j < n
  · by_cases hij : i = j
    · subst hij
      rw [kWs_get hj rfl, List.getElem?_set_self (by simp [kWs]; exact hj)]
      simp [mUp]
    · rw [List.getElem?_set_ne hij, kWs_get hj rfl, kWs_get hj rfl]
      simp [mUp, Ne.symm hij]
  · rw [List.getElem?_eq_none (by simp [kWs]; omega), List.getElem?_eq_none (by simp [kWs]; omega)]
def cloW (n : Nat) (w : mW) : Prop := ∀ i, i < n → cloE n (w i) = true
theorem cloB_le {n m : Nat} (h : n ≤ m) {v : Value} (hv : cloB n v = true) : cloB m v = true := by
  cases v with
  | ref i =>
    simp only [cloB, Bool.or_eq_true, decide_eq_true_eq] at hv ⊢
    rcases hv with h' | h'
    · exact Or.inl (Nat.lt_of_lt_of_le h' h)
    · exact Or.inr h'
  | _ => rfl
theorem cloE_le {n m : Nat} (h : n ≤ m) {e : mE} (he : cloE n e = true) : cloE m e = true := by
  cases e with
  | inl a => rfl
  | inr o => exact List.all_eq_true.mpr fun v hv => cloB_le h (List.all_eq_true.mp he v hv)
theorem cloW.push {n : Nat} {w : mW} {e : mE} (h : cloW n w) (he : cloE (n + 1) e = true) : cloW (n + 1) (mUp w n e) := by
  intro i hi
  unfold mUp
  split
  · exact he
  · exact cloE_le (Nat.le_succ n) (h i (by omega))
theorem cloW.set {n i : Nat} {w : mW} {e : mE} (h : cloW n w) (he : cloE n e = true) : cloW n (mUp w i e) := by
  intro j hj
  unfold mUp
  split
  · exact he
  · exact h j hj
theorem mUp_eq {w : mW} {i : Nat} {e : mE} : mUp w i e i = e := by unfold mUp; rw [if_pos rfl]
theorem mUp_ne {w : mW} {i j : Nat} {e : mE} (h : j ≠ i) : mUp w i e j = w j := by unfold mUp; rw [if_neg h]
theorem kWs_ag {cy : ClassId} {as as' : Nat → Nat} {n m : Nat} {w : mW} (h : agr m as as') (hn : n ≤ m) (hW : cloW n w) : kWs cy as' n w = kWs cy as n w := by
  unfold kWs
  refine List.map_congr_left fun i hi => ?_
  have hi := List.mem_range.mp hi
  rw [h i (Or.inl (by omega)), h.e (cloE_le hn (hW i hi))]
theorem kWs_push {cy : ClassId} {as : Nat → Nat} {n : Nat} {w : mW} {e : mE} : kWs cy as (n + 1) (mUp w n e) = kWs cy as n w ++ [(as n, mTE cy as e)] := by
  unfold kWs
  rw [List.range_succ, List.map_append]
  congr 1
  · refine List.map_congr_left fun i hi => ?_
    have hi := List.mem_range.mp hi
    rw [mUp_ne (by omega)]
  · simp [mUp]
def kAs (as : Nat → Nat) (n q : Nat) : Nat → Nat := fun i => if i = n then q else as i
theorem kAs_ag {as : Nat → Nat} {n q : Nat} (hn : n < 100) : agr n as (kAs as n q) := by
  intro i hi
  unfold kAs
  rw [if_neg (by omega)]
theorem kAs_n {as : Nat → Nat} {n q : Nat} : kAs as n q n = q := by unfold kAs; rw [if_pos rfl]
def kRm (d mc ms : Nat) : Room := { frames := d, cells := mc, slots := ms, locals := 40 * d }
def kPre (D : va_G) (cy : ClassId) (as : Nat → Nat) (sz : Nat) (n : Nat) (W : mW) (U : State) : Prop := U.heap.size = sz ∧ va_P D vwCl (kWs cy as n W) U.heap ∧ va_K D vwCl [(cy, .int)] U ∧ va_D (fun _ => True) (kWs cy as n W) ∧ mNW U
def kC (d : Nat) (M : mM) (av : List Value) (n : Nat) (W : mW) (mc ms : Nat) (n' : Nat) (W' : mW) : Prop :=
  ∀ (l : Launch) (D : va_G) (cy : ClassId) (as : Nat → Nat) (sz : Nat), Met l M.1 (mWd M) (kRm d mc ms) (va_Pc (av.map (mTr as)) (kPre D cy as sz n W)) (va_Qv (fun as' : Nat → Nat => agr n as as') (fun as' t => va_P D vwCl (kWs cy as' n' W') t.heap ∧ va_K D vwCl [(cy, .int)] t ∧ va_D (va_A (kWs cy as n W) sz) (kWs cy as' n' W')) (va_A (kWs cy as n W) sz)) mc ms (va_A (kWs cy as n W) sz)
def kCx (d : Nat) (M : mM) (Mc Ms : Nat) (p : Program) (R : Room) (s : State) (m : MethodId) (args : Array Value) (meth : Method) (c : Code) (D : va_G) (cy : ClassId) (A : Nat → Prop) (H0 : Heap) : Prop :=
  p.tables.exec = Jvm.exec ∧ c.code = M.2.1 ∧ c.maxLocals = M.2.2.1 ∧ s.vm.findClass M.1.cls = some m.cls ∧ (∀ w ∈ mTT, w.before args s = true) ∧ mNW s ∧ va_K D vwCl [(cy, .int)] s ∧ (∀ q, H0.size ≤ q → A q) ∧ d ≤ R.frames ∧ 40 * d ≤ R.locals ∧ Mc ≤ R.cells ∧ Ms ≤ R.slots ∧ meth.name = "<init>"
def kJ (d : Nat) (M : mM) (Mc Ms : Nat) (n' : Nat) (W' : mW) (pc : Nat) (L st : List Value) (n : Nat) (W0 : mW) (cs sl : Nat) : Prop :=
  ∀ (p : Program) (l : Launch) (e : Env) (R : Room) (s : State) (m : MethodId) (args : Array Value) (below : List Frame) (meth : Method) (c : Code) (D : va_G) (cy : ClassId) (as : Nat → Nat) (A : Nat → Prop) (H0 : Heap) (Z : State → Prop),
    kCx d M Mc Ms p R s m args meth c D cy A H0 →
    (∀ (as' : Nat → Nat) (H : Heap) (locs : List Loc) (ls : Array Slot) (pc : Nat), agr n as as' → va_P D vwCl (kWs cy as' n' W') H → va_D A (kWs cy as' n' W') → va_S A H0 H locs → decode M.2.1 pc = .ok (.return_, 1) → W p l e R s m args below meth c H locs Mc Ms Z (F0 m pc ls [])) →
    ∀ (H : Heap) (locs : List Loc) (ls : Array Slot), va_P D vwCl (kWs cy as n W0) H → va_D A (kWs cy as n W0) → va_S A H0 H locs → mLoc as ls M.2.2.1 L → W p l e R s m args below meth c H locs cs sl Z (F0 m pc ls (st.map (mTr as)))
theorem kC.of {d : Nat} {M : mM} {i n n' : Nat} {W0 W' : mW} {mc ms : Nat} (hOK : mOK M) (hn : M.2.2.1 = 1) (hr : M.2.2.2 = none) (hi : M.1.name = "<init>") (h : kJ d M mc ms n' W' 0 [.ref i] [] n W0 0 0) : kC d M [.ref i] n W0 mc ms n' W' := by
  intro l D cy as sz
  refine Met.ofW (cc := M.2.1) (maxL := M.2.2.1) (ret := M.2.2.2) hOK.2.1 rfl ?_
  intro p e s m args below meth c s₁ B hml hv
  obtain ⟨rfl, hsz, hP, hK, hD0, hN⟩ := hv
  have hts := atoms_spec (ws := mWd M) B.pre
  have hown : s.vm.findClass M.1.cls = some m.cls := findClass_of_methodNamed B.named
  have hlocks := B.notSynchronized
  have hin : meth.name = "<init>" := ((name_of_methodNamed B.named B.method).1).trans hi
  subst hsz
  have hD := hD0.self (sz := s.heap.size)
  have hA : ∀ q : Nat, s.heap.size ≤ q → va_A (kWs cy as n W0) s.heap.size q := fun q h => Or.inr h
  have hS : va_S (va_A (kWs cy as n W0) s.heap.size) s.heap s.heap [] := va_S.rf
  have hl := lv_entry ([Value.ref i].map (mTr as)) (n := M.2.2.1) (by rw [hn]; exact Nat.le_refl 1)
  rw [lg_entry_eq]
  generalize (lg_sl ([Value.ref i].map (mTr as)) ++ List.replicate (M.2.2.1 - (lg_sl ([Value.ref i].map (mTr as))).length) Slot.unset).toArray = ls at hl ⊢
  refine h p l e (headSpec (mWd M) (kRm d mc ms)).room s m _ below meth c D cy as (va_A (kWs cy as n W0) s.heap.size) s.heap _ ⟨B.exec, B.bytes, hml, hown, fun w hw => hts w (List.mem_cons_of_mem _ hw), hN, hK, hA, Nat.le_refl _, Nat.le_refl _, Nat.le_refl _, Nat.le_refl _, hin⟩ ?_ s.heap [] ls hP hD hS ⟨hl.1, hl.2.1, fun j v hj hv => ?_⟩
  · intro as' H locs ls pc hag hP hD hS hd
    exact W.vret B.exec B.bytes (B.returns.trans hr) (fun t ht hW => ⟨⟨as', rfl, hag, by rw [ht]; exact hP, va_K.moved hW.alike hK, hD⟩, hS.F ht⟩) hS.2.2 hd hlocks
  · match j, hj with
    | 0, hj => cases hj; exact hl.2.2 (0, _) List.mem_cons_self
section KR
variable {d : Nat} {M : mM} {Mc Ms n' : Nat} {W' : mW} {pc : Nat} {L st : List Value} {n : Nat} {W0 : mW} {cs sl : Nat}
theorem k_aload {i : Nat} (hd : decode M.2.1 pc = .ok (.aload_n 0, 1)) (hL : L[0]? = some (.ref i)) (k : kJ d M Mc Ms n' W' (pc + 1) L (.ref i :: st) n W0 cs sl) : kJ d M Mc Ms n' W' pc L st n W0 cs sl :=
  fun p l e R s m args below meth c D cy as A H0 Z hC hE H locs ls hP hD hS hl => lv_aload_n hC.1 hC.2.1 hd rfl (x := as i) (hl.2.2 _ _ hL (fun q => by cases q)) (k p l e R s m args below meth c D cy as A H0 Z hC hE H locs ls hP hD hS hl)
theorem k_iconst {z : Int} {v : Int32} (hd : decode M.2.1 pc = .ok (.iconst z, 1)) (hv : Int32.ofInt z = v) (k : kJ d M Mc Ms n' W' (pc + 1) L (.int v :: st) n W0 cs sl) : kJ d M Mc Ms n' W' pc L st n W0 cs sl :=
  fun p l e R s m args below meth c D cy as A H0 Z hC hE H locs ls hP hD hS hl => lv_iconst hC.1 hC.2.1 hd hv (k p l e R s m args below meth c D cy as A H0 Z hC hE H locs ls hP hD hS hl)
theorem k_bipush {z : Int} {v : Int32} (hd : decode M.2.1 pc = .ok (.bipush z, 2)) (hv : (Int8.ofInt z).toInt32 = v) (k : kJ d M Mc Ms n' W' (pc + 2) L (.int v :: st) n W0 cs sl) : kJ d M Mc Ms n' W' pc L st n W0 cs sl :=
  fun p l e R s m args below meth c D cy as A H0 Z hC hE H locs ls hP hD hS hl => lv_bipush hC.1 hC.2.1 hd hv (k p l e R s m args below meth c D cy as A H0 Z hC hE H locs ls hP hD hS hl)
theorem k_sipush {z : Int} {v : Int32} (hd : decode M.2.1 pc = .ok (.sipush z, 3)) (hv : (Int16.ofInt z).toInt32 = v) (k : kJ d M Mc Ms n' W' (pc + 3) L (.int v :: st) n W0 cs sl) : kJ d M Mc Ms n' W' pc L st n W0 cs sl :=
  fun p l e R s m args below meth c D cy as A H0 Z hC hE H locs ls hP hD hS hl => lv_sipush hC.1 hC.2.1 hd hv (k p l e R s m args below meth c D cy as A H0 Z hC hE H locs ls hP hD hS hl)
theorem k_dup {a : Value} (hd : decode M.2.1 pc = .ok (.dup, 1)) (ha : a.category = 1) (k : kJ d M Mc Ms n' W' (pc + 1) L (a :: a :: st) n W0 cs sl) : kJ d M Mc Ms n' W' pc L (a :: st) n W0 cs sl :=
  fun p l e R s m args below meth c D cy as A H0 Z hC hE H locs ls hP hD hS hl => lv_dup hC.1 hC.2.1 hd ((mTr_cat as a).trans ha) (k p l e R s m args below meth c D cy as A H0 Z hC hE H locs ls hP hD hS hl)
theorem k_ret (hd : decode M.2.1 pc = .ok (.return_, 1)) (hn : n = n') (hW : W0 = W') (h1 : cs ≤ Mc) (h2 : sl ≤ Ms) : kJ d M Mc Ms n' W' pc L [] n W0 cs sl := by
  intro p l e R s m args below meth c D cy as A H0 Z hC hE H locs ls hP hD hS hl
  subst hn
  subst hW
  exact W.widen h1 h2 (hE as H locs ls pc agr.rf hP hD hS hd)
theorem k_obj {i idx : Nat} (hn : M.2.2.1 = 1) (hl1 : Cond.methodLink M.1.cls idx objectInit ∈ mTT) (hl2 : Cond.instanceMethod objectInit ∈ mTT) (hl3 : Cond.code objectInit ⟨#[0xb1]⟩ 1 none ∈ mTT) (hd : decode M.2.1 pc = .ok (.invokespecial idx, 3)) (hst : st = []) (k : kJ (d + 1) M Mc Ms n' W' (pc + 3) L st n W0 cs sl) : kJ (d + 1) M Mc Ms n' W' pc L (.ref i :: st) n W0 cs sl := by
  intro p l e R s m args below meth c D cy as A H0 Z hC hE H locs ls hP hD hS hl
  subst hst
  have hts := hC.2.2.2.2.1
  have h1 := hC.2.2.2.2.2.2.2.2.1
  have h2 := hC.2.2.2.2.2.2.2.2.2.1
  refine W.objInit hC.1 hC.2.1 hC.2.2.2.1 (hts _ hl1) (hts _ hl2) (hts _ hl3) rfl (by rw [hC.2.2.1]; exact hl.1) rfl hd (by omega) (by show _ ≤ R.locals; simp; omega) ?_
  exact k p l e R s m args below meth c D cy as A H0 Z hC hE H locs ls hP hD hS hl
end KR

