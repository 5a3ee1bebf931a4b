section KR2
variable {d : Nat} {M : mM} {Mc Ms n' : Nat} {W' : mW} {pc : Nat} {L st : List Value} {n : Nat} {W0 : mW} {cs sl : Nat}
theorem k_newa {z : Int32} {N : Nat} (hw : Cond.arrayClass .int ∈ mTT) (hd : decode M.2.1 pc = .ok (.newarray .int, 2)) (hn : ¬ z < 0) (hN : z.toNatClampNeg = N) (hb : N ≤ 100000) (hc : cs + 1 ≤ Mc) (hs : sl + N ≤ Ms) (hlen : n < 100) (hW : cloW n W0) (hst : st.all (cloB n) = true) (hL : L.all (cloB n) = true) (k : kJ d M Mc Ms n' W' (pc + 2) L (.ref n :: st) (n + 1) (mUp W0 n (.inl (N, fun _ => 0))) (cs + 1) (sl + N)) : kJ d M Mc Ms n' W' pc L (.int z :: st) n W0 cs sl := by
  intro p l e R s m args below meth c D cy as A H0 Z hC hE H locs ls hP hD hS hl
  have hts := hC.2.2.2.2.1
  have hK := hC.2.2.2.2.2.2.1
  have hRc := hC.2.2.2.2.2.2.2.2.2.2.1
  have hRs := hC.2.2.2.2.2.2.2.2.2.2.2.1
  refine va_newa (atype := .int) (ty := .int) (a0 := (N, .inl (fun _ => 0))) hC.1 hC.2.1 (hts _ hw) rfl hK hP hD hS hC.2.2.2.2.2.2.2.1 (fun cA => rfl) hn hN (by show N * 4 ≤ _; omega) (by omega) (by omega) hd (fun q cA H1 hK1 hP1 hD1 hS1 => ?_)
  have e1 : s.vm.findClass ("[" ++ FieldType.int.toString) = some cA := (hK1.2 1 (cA, .int) rfl).2
  have e2 : s.vm.findClass ("[" ++ FieldType.int.toString) = some cy := (hK.2 0 (cy, .int) rfl).2
  have e3 : cA = cy := Option.some.inj (e1.symm.trans e2)
  subst e3
  have hag : agr n as (kAs as n q) := kAs_ag hlen
  have hws : kWs cA as n W0 ++ [(q, Sum.inl (cA, N, Sum.inl (fun _ => 0)))] = kWs cA (kAs as n q) (n + 1) (mUp W0 n (.inl (N, fun _ => 0))) := by
    rw [kWs_push, kWs_ag hag (Nat.le_refl _) hW, kAs_n]; rfl
  rw [hws] at hP1 hD1
  have hstk : Value.ref q :: st.map (mTr as) = (Value.ref n :: st).map (mTr (kAs as n q)) := by
    rw [List.map_cons, hag.vs hst]
    show _ = Value.ref (kAs as n q n) :: _
    rw [kAs_n]
  rw [hstk]
  exact k p l e R s m args below meth c D cA (kAs as n q) A H0 Z hC (fun as' H locs ls pc hq => hE as' H locs ls pc (hag.tr (hq.le (Nat.le_succ n)))) H1 locs ls hP1 hD1 hS1 (hag.loc hL hl)
theorem k_new {ci idx N : Nat} {C : String} {T : u_T} {fs : List Value} (ty : Nat → FieldType) (hc1 : Cond.classLink M.1.cls idx C ∈ mTT) (hc2 : Cond.instantiable C N ∈ mTT) (hc3 : Cond.initialized C ∈ mTT) (hin : ∀ w ∈ u_ws C T N, w ∈ mTT) (hty : ∀ k, k < N → parseFieldDescriptor (T k).2.2.1 = some (ty k)) (hcl : vwCl[ci]? = some (C, T, N)) (hfs : ∀ j, j < N → defaultValue (ty j) = vp_V fs j) (hf : ∀ as : Nat → Nat, fs.map (mTr as) = fs) (hd : decode M.2.1 pc = .ok (.new idx, 3)) (hc : cs + 1 ≤ Mc) (hs : sl + N ≤ Ms) (hlen : n < 100) (hW : cloW n W0) (hst : st.all (cloB n) = true) (hL : L.all (cloB n) = true) (k : kJ d M Mc Ms n' W' (pc + 3) L (.ref n :: st) (n + 1) (mUp W0 n (.inr (ci, fs))) (cs + 1) (sl + N)) : kJ d M Mc Ms n' W' pc L st n W0 cs sl := by
  intro p l e R s m args below meth c D cy as A H0 Z hC hE H locs ls hP hD hS hl
  have hts := hC.2.2.2.2.1
  have hK := hC.2.2.2.2.2.2.1
  have hRc := hC.2.2.2.2.2.2.2.2.2.2.1
  have hRs := hC.2.2.2.2.2.2.2.2.2.2.2.1
  refine va_new (ci := ci) (fs := fs) hC.1 hC.2.1 hts hin ty hty hC.2.2.2.1 (hts _ hc1) (hts _ hc2) (hts _ hc3) hK hP hD hS hC.2.2.2.2.2.2.2.1 hcl hfs (by omega) (by omega) hd (fun q H1 hP1 hD1 hS1 => ?_)
  have hag : agr n as (kAs as n q) := kAs_ag hlen
  have hws : kWs cy as n W0 ++ [(q, Sum.inr (ci, fs))] = kWs cy (kAs as n q) (n + 1) (mUp W0 n (.inr (ci, fs))) := by
    rw [kWs_push, kWs_ag hag (Nat.le_refl _) hW, kAs_n]
    show _ = _ ++ [(q, Sum.inr (ci, fs.map (mTr _)))]
    rw [hf]
  rw [hws] at hP1 hD1
  have hstk : Value.ref q :: st.map (mTr as) = (Value.ref n :: st).map (mTr (kAs as n q)) := by
    rw [List.map_cons, hag.vs hst]
    show _ = Value.ref (kAs as n q n) :: _
    rw [kAs_n]
  rw [hstk]
  exact k p l e R s m args below meth c D cy (kAs as n q) A H0 Z hC (fun as' H locs ls pc hq => hE as' H locs ls pc (hag.tr (hq.le (Nat.le_succ n)))) H1 locs ls hP1 hD1 hS1 (hag.loc hL hl)
theorem k_iast {a len : Nat} {f : Nat → Int32} {i x : Int32} (hd : decode M.2.1 pc = .ok (.iastore, 1)) (ha : a < n) (hw : W0 a = .inl (len, f)) (hi : vp_in i len) (k : kJ d M Mc Ms n' W' (pc + 1) L st n (mUp W0 a (.inl (len, upd f i.toNatClampNeg x))) cs sl) : kJ d M Mc Ms n' W' pc L (.int x :: .int i :: .ref a :: st) n W0 cs sl := by
  intro p l e R s m args below meth c D cy as A H0 Z hC hE H locs ls hP hD hS hl
  refine va_iast hC.1 hC.2.1 hC.2.2.2.2.2.2.1 hP hD hS a 0 (kWs_get ha hw) rfl hi hd (fun H1 locs1 hP1 hD1 hS1 => ?_)
  have hset := kWs_set (cy := cy) (as := as) (w := W0) ha (.inl (len, upd f i.toNatClampNeg x))
  have hset : (kWs cy as n W0).set a (as a, .inl (cy, len, .inl (upd f i.toNatClampNeg x))) = kWs cy as n (mUp W0 a (.inl (len, upd f i.toNatClampNeg x))) := hset
  rw [hset] at hP1 hD1
  exact k p l e R s m args below meth c D cy as A H0 Z hC hE H1 locs1 ls hP1 hD1 hS1 hl
theorem k_putF {a j idx ci kf N : Nat} {C : String} {T : u_T} {fs : List Value} {ty : FieldType} (ty0 : Nat → FieldType) (hcl : vwCl[ci]? = some (C, T, N)) (hin : ∀ w ∈ u_ws C T N, w ∈ mTT) (hty : ∀ k, k < N → parseFieldDescriptor (T k).2.2.1 = some (ty0 k)) (hnm : ∀ a, a < N → ∀ b, b < N → a ≠ b → (T a).2.1 ≠ (T b).2.1) (hk : kf < N) (hlink : Cond.fieldLink M.1.cls idx C (T kf).2.1 (T kf).2.2.1 ∈ mTT) (hC1 : (T kf).1 = C) (hM : (T kf).1 = M.1.cls) (hfin : (T kf).2.2.2 = true) (hpd : parseFieldDescriptor (T kf).2.2.1 = some ty) (hn : ∀ q, narrow ty (.ref q) = .ref q) (hf : ∀ q, fits ty (.ref q) = true) (hd : decode M.2.1 pc = .ok (.putfield idx, 3)) (ha : a < n) (hw : W0 a = .inr (ci, fs)) (hl2 : kf < fs.length) (k : kJ d M Mc Ms n' W' (pc + 3) L st n (mUp W0 a (.inr (ci, fs.set kf (.ref j)))) cs sl) : kJ d M Mc Ms n' W' pc L (.ref j :: .ref a :: st) n W0 cs sl := by
  intro p l e R s m args below meth c D cy as A H0 Z hC hE H locs ls hP hD hS hl
  have he : (kWs cy as n W0)[a]? = some (as a, .inr (ci, fs.map (mTr as))) := kWs_get ha hw
  refine va_putF hC.1 hC.2.1 hC.2.2.2.2.1 hin ty0 hty hnm hC.2.2.2.1 hC.2.2.2.2.2.2.1 hP hD hS a he hcl kf hk (hC.2.2.2.2.1 _ hlink) (fun x hx => by rw [hC1] at hx; exact hx) hfin hC.2.2.2.2.2.2.2.2.2.2.2.2 hM hpd (hn (as j)) (hf (as j)) (by rw [List.length_map]; exact hl2) hd (fun H1 locs1 hP1 hD1 hS1 => ?_)
  have hset : (kWs cy as n W0).set a (as a, .inr (ci, (fs.map (mTr as)).set kf (mTr as (.ref j)))) = kWs cy as n (mUp W0 a (.inr (ci, fs.set kf (.ref j)))) := by
    rw [← kWs_set ha]
    simp [mTE, List.map_set]
  rw [hset] at hP1 hD1
  exact k p l e R s m args below meth c D cy as A H0 Z hC hE H1 locs1 ls hP1 hD1 hS1 hl
theorem k_putI {a idx ci kf N : Nat} {C : String} {T : u_T} {fs : List Value} {x : Int32} (ty0 : Nat → FieldType) (hcl : vwCl[ci]? = some (C, T, N)) (hin : ∀ w ∈ u_ws C T N, w ∈ mTT) (hty : ∀ k, k < N → parseFieldDescriptor (T k).2.2.1 = some (ty0 k)) (hnm : ∀ a, a < N → ∀ b, b < N → a ≠ b → (T a).2.1 ≠ (T b).2.1) (hk : kf < N) (hlink : Cond.fieldLink M.1.cls idx C (T kf).2.1 (T kf).2.2.1 ∈ mTT) (hC1 : (T kf).1 = C) (hfin : (T kf).2.2.2 = false) (hpd : parseFieldDescriptor (T kf).2.2.1 = some .int) (hd : decode M.2.1 pc = .ok (.putfield idx, 3)) (ha : a < n) (hw : W0 a = .inr (ci, fs)) (hl2 : kf < fs.length) (k : kJ d M Mc Ms n' W' (pc + 3) L st n (mUp W0 a (.inr (ci, fs.set kf (.int x)))) cs sl) : kJ d M Mc Ms n' W' pc L (.int x :: .ref a :: st) n W0 cs sl := by
  intro p l e R s m args below meth c D cy as A H0 Z hC hE H locs ls hP hD hS hl
  have he : (kWs cy as n W0)[a]? = some (as a, .inr (ci, fs.map (mTr as))) := kWs_get ha hw
  refine va_put (v := .int x) hC.1 hC.2.1 hC.2.2.2.2.1 hin ty0 hty hnm hC.2.2.2.1 hC.2.2.2.2.2.2.1 hP hD hS a he hcl kf hk (hC.2.2.2.2.1 _ hlink) (fun x hx => by rw [hC1] at hx; exact hx) hfin hpd rfl rfl (by rw [List.length_map]; exact hl2) hd (fun H1 locs1 hP1 hD1 hS1 => ?_)
  have hset : (kWs cy as n W0).set a (as a, .inr (ci, (fs.map (mTr as)).set kf (mTr as (.int x)))) = kWs cy as n (mUp W0 a (.inr (ci, fs.set kf (.int x)))) := by
    rw [← kWs_set ha]
    simp [mTE, List.map_set]
  have hset : (kWs cy as n W0).set a (as a, .inr (ci, (fs.map (mTr as)).set kf (.int x))) = kWs cy as n (mUp W0 a (.inr (ci, fs.set kf (.int x)))) := hset
  rw [hset] at hP1 hD1
  exact k p l e R s m args below meth c D cy as A H0 Z hC hE H1 locs1 ls hP1 hD1 hS1 hl
theorem kPc_blind {D : va_G} {cy : ClassId} {as : Nat → Nat} {sz n : Nat} {w : mW} {av : List Value} : FrameBlind (va_Pc av (kPre D cy as sz n w)) := by
  intro a U g mk q
  obtain ⟨q0, q1, qP, qK, qD, qN⟩ := q
  exact ⟨q0, q1, qP, va_K.moved (u := U) (U := U.calling g mk a) (Vm.Alike.refl U.vm) qK, qD, mNW.same (u := U) (U := U.calling g mk a) rfl qN⟩
theorem k_init {i idx mc ms n2 : Nat} {M2 : mM} {W2 : mW} {host : String} (hOK : mOK M2) (hnm : M2.1.name = "<init>") (hret : M2.2.2.2 = none) (hpar : (parseMethodDescriptor M2.1.desc).map (fun d => d.parameters.length) = some 0) (hlink : Cond.methodLinkNest M.1.cls idx M2.1 host ∈ lw_tbl) (hinst : Cond.instanceMethod M2.1 ∈ mTT) (hd : decode M.2.1 pc = .ok (.invokespecial idx, 3)) (hr : (st.map fun v => v.category).sum ≤ 8) (hc : cs + mc ≤ Mc) (hs : sl + ms ≤ Ms) (hW : cloW n W0) (hst : st.all (cloB n) = true) (hL : L.all (cloB n) = true) (hle : n ≤ n2) (hM : kC d M2 [.ref i] n W0 mc ms n2 W2) (k : kJ (d + 1) M Mc Ms n' W' (pc + 3) L st n2 W2 (cs + mc) (sl + ms)) : kJ (d + 1) M Mc Ms n' W' pc L (.ref i :: st) n W0 cs sl := by
  intro p l e R s m args below meth c D cy as A H0 Z hC hE H locs ls hP hD hS hl
  have hts := hC.2.2.2.2.1
  have hRc := hC.2.2.2.2.2.2.2.2.2.2.1
  have hRs := hC.2.2.2.2.2.2.2.2.2.2.2.1
  have hfr : (kRm d mc ms).frames + 1 ≤ R.frames := hC.2.2.2.2.2.2.2.2.1
  have hlo : 8 + (M2.2.2.1 + 11) + (kRm d mc ms).locals ≤ R.locals := by
    have h1 := hC.2.2.2.2.2.2.2.2.2.1
    have h2 := hOK.2.2.2.2
    show 8 + (M2.2.2.1 + 11) + 40 * d ≤ R.locals
    omega
  have hini : (Cond.initialized M2.1.cls).before args s = true := hts _ (mTT_mem hOK.2.2.1 rfl)
  have hrest : ((st.map (mTr as)).map fun v => v.category).sum ≤ 8 := by rw [List.map_map]; simpa [Function.comp_def, mTr_cat] using hr
  have hpre : ∀ U : State, U.heap = H → s.WarmedH U.vm → va_Pc ([Value.ref i].map (mTr as)) (kPre D cy as H.size n W0) ([Value.ref i].map (mTr as)).toArray U :=
    fun U hU hW => ⟨rfl, by rw [hU], by rw [hU]; exact hP, va_K.moved hW.alike hC.2.2.2.2.2.2.1, hD.weaken (fun _ _ _ _ => trivial), hC.2.2.2.2.2.1.warm hW⟩
  have hf : ∀ q, va_A (kWs cy as n W0) H.size q → A q := by
    intro q h
    rcases h with ⟨k, e, h⟩ | h
    · exact hD.2 k (q, e) h
    · exact hC.2.2.2.2.2.2.2.1 q (Nat.le_trans hS.1 h)
  have hcw : va_CN R s args M.1.cls idx M2.1 host M2.2.1 M2.2.2.1 none (mWd M2) (kRm d mc ms) mc ms 0 := by
    have := va_cnB (R := R) (args := args) (s := s) 0 hts (mGood hOK) rfl rfl rfl (hC.2.2.2.2.2.1 _ hlink rfl) hini ⟨hOK.2.2.2.1.1, hOK.2.2.2.1.2, hpar⟩ ⟨hfr, hlo⟩
    rw [hret] at this
    exact this
  refine va_callv (va_runIN (As := []) (n := 0) ⟨hC.1, hC.2.1, hC.2.2.1, hC.2.2.2.1, hts⟩ (hM l D cy as H.size) ⟨hcw, hnm, hts _ hinst⟩ ⟨kPc_blind, hpre⟩ rfl rfl hl.1 rfl (lv_room hrest) hd ⟨by omega, by omega⟩) hS (fun q _ h => hf q h) hf (fun as' t H1 locs1 ht hvm hag hB hz hk hS1 => ?_)
  obtain ⟨hP1, hK1, hD1⟩ := hB
  rw [ht] at hP1
  have hD2 : va_D A (kWs cy as' n2 W2) := hD1.weaken (fun k q _ h => hf q.1 h)
  rw [← hag.vs hst]
  exact k p l e R s m args below meth c D cy as' A H0 Z hC (fun as'' H locs ls pc hq => hE as'' H locs ls pc (hag.tr (hq.le hle))) H1 locs1 ls hP1 hD2 hS1 (hag.loc hL hl)
theorem k_newa1 {z : Int32} {N n1 cs1 sl1 : Nat} (hn1 : n + 1 = n1) (hcs1 : cs + 1 = cs1) (hsl1 : sl + N = sl1) (hw : Cond.arrayClass .int ∈ mTT) (hd : decode M.2.1 pc = .ok (.newarray .int, 2)) (hn : ¬ z < 0) (hN : z.toNatClampNeg = N) (hb : N ≤ 100000) (hc : cs + 1 ≤ Mc) (hs : sl + N ≤ Ms) (hlen : n < 100) (hW : cloW n W0) (hst : st.all (cloB n) = true) (hL : L.all (cloB n) = true) (k : ∀ w1, w1 = mUp W0 n (.inl (N, fun _ => 0)) → kJ d M Mc Ms n' W' (pc + 2) L (.ref n :: st) n1 w1 cs1 sl1) : kJ d M Mc Ms n' W' pc L (.int z :: st) n W0 cs sl := by
  subst hn1 hcs1 hsl1
  exact k_newa hw hd hn hN hb hc hs hlen hW hst hL (k _ rfl)
theorem k_new1 {ci idx N n1 cs1 sl1 : Nat} {C : String} {T : u_T} {fs : List Value} (hn1 : n + 1 = n1) (hcs1 : cs + 1 = cs1) (hsl1 : sl + N = sl1) (ty : Nat → FieldType) (hc1 : Cond.classLink M.1.cls idx C ∈ mTT) (hc2 : Cond.instantiable C N ∈ mTT) (hc3 : Cond.initialized C ∈ mTT) (hin : ∀ w ∈ u_ws C T N, w ∈ mTT) (hty : ∀ k, k < N → parseFieldDescriptor (T k).2.2.1 = some (ty k)) (hcl : vwCl[ci]? = some (C, T, N)) (hfs : ∀ j, j < N → defaultValue (ty j) = vp_V fs j) (hf : ∀ as : Nat → Nat, fs.map (mTr as) = fs) (hd : decode M.2.1 pc = .ok (.new idx, 3)) (hc : cs + 1 ≤ Mc) (hs : sl + N ≤ Ms) (hlen : n < 100) (hW : cloW n W0) (hst : st.all (cloB n) = true) (hL : L.all (cloB n) = true) (k : ∀ w1, w1 = mUp W0 n (.inr (ci, fs)) → kJ d M Mc Ms n' W' (pc + 3) L (.ref n :: st) n1 w1 cs1 sl1) : kJ d M Mc Ms n' W' pc L st n W0 cs sl := by
  subst hn1 hcs1 hsl1
  exact k_new ty hc1 hc2 hc3 hin hty hcl hfs hf hd hc hs hlen hW hst hL (k _ rfl)
theorem k_iast1 {a len i' : Nat} {f : Nat → Int32} {i x : Int32} (hd : decode M.2.1 pc = .ok (.iastore, 1)) (ha : a < n) (hw : W0 a = .inl (len, f)) (hi : vp_in i len) (hi' : i.toNatClampNeg = i') (k : ∀ w1, w1 = mUp W0 a (.inl (len, upd f i' x)) → kJ d M Mc Ms n' W' (pc + 1) L st n w1 cs sl) : kJ d M Mc Ms n' W' pc L (.int x :: .int i :: .ref a :: st) n W0 cs sl := by
  subst hi'
  exact k_iast hd ha hw hi (k _ rfl)
theorem k_putF1 {a j idx ci kf N : Nat} {C : String} {T : u_T} {fs fs1 : List Value} {ty : FieldType} (hfs1 : fs.set kf (.ref j) = fs1) (ty0 : Nat → FieldType) (hcl : vwCl[ci]? = some (C, T, N)) (hin : ∀ w ∈ u_ws C T N, w ∈ mTT) (hty : ∀ k, k < N → parseFieldDescriptor (T k).2.2.1 = some (ty0 k)) (hnm : ∀ a, a < N → ∀ b, b < N → a ≠ b → (T a).2.1 ≠ (T b).2.1) (hk : kf < N) (hlink : Cond.fieldLink M.1.cls idx C (T kf).2.1 (T kf).2.2.1 ∈ mTT) (hC1 : (T kf).1 = C) (hM : (T kf).1 = M.1.cls) (hfin : (T kf).2.2.2 = true) (hpd : parseFieldDescriptor (T kf).2.2.1 = some ty) (hn : ∀ q, narrow ty (.ref q) = .ref q) (hf : ∀ q, fits ty (.ref q) = true) (hd : decode M.2.1 pc = .ok (.putfield idx, 3)) (ha : a < n) (hw : W0 a = .inr (ci, fs)) (hl2 : kf < fs.length) (k : ∀ w1, w1 = mUp W0 a (.inr (ci, fs1)) → kJ d M Mc Ms n' W' (pc + 3) L st n w1 cs sl) : kJ d M Mc Ms n' W' pc L (.ref j :: .ref a :: st) n W0 cs sl := by
  subst hfs1
  exact k_putF ty0 hcl hin hty hnm hk hlink hC1 hM hfin hpd hn hf hd ha hw hl2 (k _ rfl)
theorem k_putI1 {a idx ci kf N : Nat} {C : String} {T : u_T} {fs fs1 : List Value} {x : Int32} (hfs1 : fs.set kf (.int x) = fs1) (ty0 : Nat → FieldType) (hcl : vwCl[ci]? = some (C, T, N)) (hin : ∀ w ∈ u_ws C T N, w ∈ mTT) (hty : ∀ k, k < N → parseFieldDescriptor (T k).2.2.1 = some (ty0 k)) (hnm : ∀ a, a < N → ∀ b, b < N → a ≠ b → (T a).2.1 ≠ (T b).2.1) (hk : kf < N) (hlink : Cond.fieldLink M.1.cls idx C (T kf).2.1 (T kf).2.2.1 ∈ mTT) (hC1 : (T kf).1 = C) (hfin : (T kf).2.2.2 = false) (hpd : parseFieldDescriptor (T kf).2.2.1 = some .int) (hd : decode M.2.1 pc = .ok (.putfield idx, 3)) (ha : a < n) (hw : W0 a = .inr (ci, fs)) (hl2 : kf < fs.length) (k : ∀ w1, w1 = mUp W0 a (.inr (ci, fs1)) → kJ d M Mc Ms n' W' (pc + 3) L st n w1 cs sl) : kJ d M Mc Ms n' W' pc L (.int x :: .ref a :: st) n W0 cs sl := by
  subst hfs1
  exact k_putI ty0 hcl hin hty hnm hk hlink hC1 hfin hpd hd ha hw hl2 (k _ rfl)
theorem k_init1 {i idx mc ms n2 cs1 sl1 : Nat} {M2 : mM} {W2 : mW} {host : String} (hcs1 : cs + mc = cs1) (hsl1 : sl + ms = sl1) (hOK : mOK M2) (hnm : M2.1.name = "<init>") (hret : M2.2.2.2 = none) (hpar : (parseMethodDescriptor M2.1.desc).map (fun d => d.parameters.length) = some 0) (hlink : Cond.methodLinkNest M.1.cls idx M2.1 host ∈ lw_tbl) (hinst : Cond.instanceMethod M2.1 ∈ mTT) (hd : decode M.2.1 pc = .ok (.invokespecial idx, 3)) (hr : (st.map fun v => v.category).sum ≤ 8) (hc : cs + mc ≤ Mc) (hs : sl + ms ≤ Ms) (hW : cloW n W0) (hst : st.all (cloB n) = true) (hL : L.all (cloB n) = true) (hle : n ≤ n2) (hM : kC d M2 [.ref i] n W0 mc ms n2 W2) (k : ∀ w1, w1 = W2 → kJ (d + 1) M Mc Ms n' W' (pc + 3) L st n2 w1 cs1 sl1) : kJ (d + 1) M Mc Ms n' W' pc L (.ref i :: st) n W0 cs sl := by
  subst hcs1 hsl1
  exact k_init hOK hnm hret hpar hlink hinst hd hr hc hs hW hst hL hle hM (k _ rfl)
end KR2

