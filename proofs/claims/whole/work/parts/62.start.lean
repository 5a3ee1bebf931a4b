theorem tk_92 : (Jvm.Cond.initialized "BarrowNights") ∈ lw_tbl := List.mem_of_getElem? (i := 92) (by decide +kernel)
theorem tk_100 : (Jvm.Cond.initialized "BarrowNightsModel") ∈ lw_tbl := List.mem_of_getElem? (i := 100) (by decide +kernel)
theorem tk_104 : (Jvm.Cond.classLink "BarrowNightsLaw" (7 : Nat) "BarrowNights") ∈ lw_tbl := List.mem_of_getElem? (i := 104) (by decide +kernel)
theorem tk_105 : (Jvm.Cond.instantiable "BarrowNights" (9 : Nat)) ∈ lw_tbl := List.mem_of_getElem? (i := 105) (by decide +kernel)
theorem tk_106 : (Jvm.Cond.methodLink "BarrowNightsLaw" (9 : Nat) ({ cls := "BarrowNights", name := "<init>", desc := "()V" } : Jvm.MethodName)) ∈ lw_tbl := List.mem_of_getElem? (i := 106) (by decide +kernel)
theorem tk_107 : (Jvm.Cond.instanceMethod ({ cls := "BarrowNights", name := "<init>", desc := "()V" } : Jvm.MethodName)) ∈ lw_tbl := List.mem_of_getElem? (i := 107) (by decide +kernel)
theorem tk_782 : (Jvm.Cond.classLink "BarrowNightsLaw" (10 : Nat) "BarrowNightsModel") ∈ lw_tbl := List.mem_of_getElem? (i := 782) (by decide +kernel)
theorem tk_783 : (Jvm.Cond.instantiable "BarrowNightsModel" (36 : Nat)) ∈ lw_tbl := List.mem_of_getElem? (i := 783) (by decide +kernel)
theorem tk_784 : (Jvm.Cond.methodLink "BarrowNightsLaw" (12 : Nat) ({ cls := "BarrowNightsModel", name := "<init>", desc := "()V" } : Jvm.MethodName)) ∈ lw_tbl := List.mem_of_getElem? (i := 784) (by decide +kernel)
theorem tk_785 : (Jvm.Cond.instanceMethod ({ cls := "BarrowNightsModel", name := "<init>", desc := "()V" } : Jvm.MethodName)) ∈ lw_tbl := List.mem_of_getElem? (i := 785) (by decide +kernel)
theorem law_arr {args : Array Value} {s : State} (h : (Cond.arrayClass .int).before args s = true) : ∃ cy, ArrOfT s cy .int ∧ va_RA s cy .int := by
  obtain ⟨cA, kA, comp, h1, h2, h3⟩ := Cond.arrayClass_spec h
  exact ⟨cA, fun n z => ⟨fun k h => (by cases h), kA, h2, comp, h3⟩, h1⟩
theorem law_Nw {w : Cond} {args : Array Value} {s : State} (h : w.before args s = true) (hn : mNest w = true) : va_Nw w s := by
  cases w <;> first | exact va_tabs rfl rfl h | cases hn
theorem law_mk {p : Program} {l : Launch} {e : Env} {R : Room} {s : State} {m : MethodId} {args : Array Value} {below : List Frame} {meth : Method} {c : Code} {H : Heap} {locs : List Loc} {cells slots : Nat} {Z : State → Prop} {D : va_G} {cy : ClassId} {as : Nat → Nat} {A : Nat → Prop} {H0 : Heap} {pc : Nat} {ls : Array Slot} {n n2 mc ms N ci idx idx2 d : Nat} {C : String} {T : u_T} {fs : List Value} {w W2 : mW} {M2 : mM}
    (hC : p.tables.exec = Jvm.exec ∧ c.code = code ∧ c.maxLocals = 4 ∧ s.vm.findClass RL = some m.cls ∧ (∀ w ∈ mTT, w.before args s = true) ∧ mNW s ∧ va_K D vwCl [(cy, .int)] s ∧ (∀ q, H0.size ≤ q → A q))
    (ty : Nat → FieldType) (hc1 : Cond.classLink RL idx C ∈ mTT) (hc2 : Cond.instantiable C N ∈ mTT) (hc3 : Cond.initialized C ∈ mTT) (hin : ∀ w ∈ u_ws C T N, w ∈ mTT) (hty : ∀ k, k < N → parseFieldDescriptor (T k).2.2.1 = some (ty k)) (hcl : vwCl[ci]? = some (C, T, N)) (hfs : ∀ j, j < N → defaultValue (ty j) = vp_V fs j) (hf : ∀ as : Nat → Nat, fs.map (mTr as) = fs)
    (hd1 : decode code pc = .ok (.new idx, 3)) (hd2 : decode code (pc + 3) = .ok (.dup, 1)) (hd3 : decode code (pc + 3 + 1) = .ok (.invokespecial idx2, 3)) (hr1 : cells + 1 + mc ≤ R.cells) (hr2 : slots + N + ms ≤ R.slots) (hfr : d + 1 ≤ R.frames) (hlo : 40 * (d + 1) ≤ R.locals) (hn : n < 100) (hW : cloW n w)
    (hOK : mOK M2) (hnm : M2.1.name = "<init>") (hret : M2.2.2.2 = none) (hpar : (parseMethodDescriptor M2.1.desc).map (fun d => d.parameters.length) = some 0) (hlink : Cond.methodLink RL idx2 M2.1 ∈ mTT) (hinst : Cond.instanceMethod M2.1 ∈ mTT) (hM : kC d M2 [.ref n] (n + 1) (mUp w n (.inr (ci, fs))) mc ms n2 W2)
    (hls : ls.size = 4) (hP : va_P D vwCl (kWs cy as n w) H) (hD : va_D A (kWs cy as n w)) (hS : va_S A H0 H locs)
    (kk : ∀ (as' : Nat → Nat) (H1 : Heap) (locs1 : List Loc), agr n as as' → va_P D vwCl (kWs cy as' n2 W2) H1 → va_D A (kWs cy as' n2 W2) → va_S A H0 H1 locs1 → W p l e R s m args below meth c H1 locs1 (cells + 1 + mc) (slots + N + ms) Z (F0 m (pc + 3 + 1 + 3) ls [.ref (as' n)])) :
    W p l e R s m args below meth c H locs cells slots Z (F0 m pc ls []) := by
  have hts := hC.2.2.2.2.1
  have hK := hC.2.2.2.2.2.2.1
  refine va_new (ci := ci) (fs := fs) hC.1 hC.2.1 hts hin ty hty hC.2.2.2.1 (hts _ hc1) (hts _ hc2) (hts _ hc3) hK hP hD hS hC.2.2.2.2.2.2.2 hcl hfs (by omega) (by omega) hd1 (fun q H1 hP1 hD1 hS1 => ?_)
  have hag : agr n as (kAs as n q) := kAs_ag hn
  have hws : kWs cy as n w ++ [(q, Sum.inr (ci, fs))] = kWs cy (kAs as n q) (n + 1) (mUp w n (.inr (ci, fs))) := by
    rw [kWs_push, kWs_ag hag (Nat.le_refl _) hW, kAs_n]
    show _ = _ ++ [(q, Sum.inr (ci, fs.map (mTr _)))]
    rw [hf]
  rw [hws] at hP1 hD1
  refine lv_dup hC.1 hC.2.1 hd2 rfl ?_
  have hlo : 8 + (M2.2.2.1 + 11) + (kRm d mc ms).locals ≤ R.locals := by
    have h2 := hOK.2.2.2.2
    show 8 + (M2.2.2.1 + 11) + 40 * d ≤ R.locals
    omega
  have hini : (Cond.initialized M2.1.cls).before args s = true := hts _ (mTT_mem hOK.2.2.1 rfl)
  have hq : q = kAs as n q n := kAs_n.symm
  have hpre : ∀ U : State, U.heap = H1 → s.WarmedH U.vm → va_Pc ([Value.ref n].map (mTr (kAs as n q))) (kPre D cy (kAs as n q) H1.size (n + 1) (mUp w n (.inr (ci, fs)))) ([Value.ref n].map (mTr (kAs as n q))).toArray U :=
    fun U hU hW => ⟨rfl, by rw [hU], by rw [hU]; exact hP1, va_K.moved hW.alike hK, hD1.weaken (fun _ _ _ _ => trivial), hC.2.2.2.2.2.1.warm hW⟩
  have hfree : ∀ q', va_A (kWs cy (kAs as n q) (n + 1) (mUp w n (.inr (ci, fs)))) H1.size q' → A q' := by
    intro q' h
    rcases h with ⟨k, e, h⟩ | h
    · exact hD1.2 k (q', e) h
    · exact hC.2.2.2.2.2.2.2 q' (Nat.le_trans hS1.1 h)
  have hcw : CallB R s args RL idx2 M2.1 M2.2.1 M2.2.2.1 none (mWd M2) (kRm d mc ms) mc ms 0 := by
    have := callB_of (R := R) (args := args) (s := s) (rm := kRm d mc ms) (mc := mc) (ms := ms) 0 hts (mGood hOK) rfl rfl rfl hini (hts _ hlink) ⟨hOK.2.2.2.1.1, hOK.2.2.2.1.2, hpar⟩ ⟨hfr, hlo⟩
    rw [hret] at this
    exact this
  have hstk : F0 m (pc + 3 + 1) ls [.ref q, .ref q] = F0 m (pc + 3 + 1) ls ([Value.ref (kAs as n q n), .ref q]) := by rw [← hq]
  rw [hstk]
  refine va_callv (va_runI (As := []) (n := 0) (rest := [.ref q]) ⟨hC.1, hC.2.1, hC.2.2.1, hC.2.2.2.1, hts⟩ (hM l D cy (kAs as n q) H1.size) ⟨hcw, hnm, hts _ hinst⟩ ⟨kPc_blind, hpre⟩ rfl rfl hls rfl (lv_room (Nat.le_of_ble_eq_true rfl)) hd3 ⟨by omega, by omega⟩) hS1 (fun q' _ h => hfree q' h) hfree (fun as' t H2 locs2 ht hvm hag2 hB hz hk hS2 => ?_)
  obtain ⟨hP2, hK2, hD2⟩ := hB
  rw [ht] at hP2
  have hD3 : va_D A (kWs cy as' n2 W2) := hD2.weaken (fun k q' _ h => hfree q'.1 h)
  have hq2 : as' n = q := (hag2 n (Or.inl (Nat.lt_succ_self n))).trans kAs_n
  have := kk as' H2 locs2 (hag.tr (hag2.le (Nat.le_succ n))) hP2 hD3 hS2
  rw [hq2] at this
  exact this
theorem kwX_clo : cloW 44 (kw_X (mUp (fun _ => .inl (0, fun _ => 0)) 0 (.inr (7, [.null, .null, .null, .null, .null, .null, .null, .int 0, .int 0])))) := kcl_X (cloW.push (n := 0) (fun i hi => absurd hi (Nat.not_lt_zero i)) rfl)
set_option maxHeartbeats 4000000 in
set_option maxRecDepth 100000 in
theorem whole_start {p : Program} {e : Env} {s : State} {m : MethodId} {below : List Frame} {meth : Method} {c : Code} (l : Launch) {b L : Nat} {xs : Nat → Int32} (hL : L ≤ 3072) (C0 : lw_At p s m meth c b L xs) : W p l e room_1 s m #[Value.ref b] below meth c s.heap [] 0 0 (lw_Z below #[Value.ref b] s) (entryFrame m ([Value.ref b] : List Value).toArray 4) := by
  obtain ⟨hx, hb, hr, hml, hown, hts, hX, hbl, hlocks, hgv⟩ := id C0
  have hA : ∀ q : Nat, s.heap.size ≤ q → (fun q : Nat => s.heap.size ≤ q) q := fun _ h => h
  have hbA : ¬ (fun q : Nat => s.heap.size ≤ q) b := Nat.not_le.mpr hbl
  have hts2 : ∀ w ∈ mTT, w.before #[Value.ref b] s = true := fun w hw => hts w (List.mem_filter.mp hw).1
  have hNW : mNW s := fun w hw hn => law_Nw (hts w hw) hn
  obtain ⟨cy, hcy1, hcy2⟩ := law_arr (hts _ tk_128)
  obtain ⟨c0, i0, hKn0⟩ := u_known (C := RX0) (T := TX0) (N := 12) (n := 12) hts2 inX0 (hts _ tk_149)
  obtain ⟨c1, i1, hKn1⟩ := u_known (C := RX1) (T := TX1) (N := 5) (n := 5) hts2 inX1 (hts _ tk_250)
  obtain ⟨c2, i2, hKn2⟩ := u_known (C := RX2) (T := TX2) (N := 7) (n := 7) hts2 inX2 (hts _ tk_275)
  obtain ⟨c3, i3, hKn3⟩ := u_known (C := RX3) (T := TX3) (N := 4) (n := 4) hts2 inX3 (hts _ tk_305)
  obtain ⟨c4, i4, hKn4⟩ := u_known (C := RX4) (T := TX4) (N := 6) (n := 6) hts2 inX4 (hts _ tk_223)
  obtain ⟨c5, i5, hKn5⟩ := u_known (C := RX5) (T := TX5) (N := 3) (n := 3) hts2 inX5 (hts _ tk_113)
  obtain ⟨c6, i6, hKn6⟩ := u_known (C := RX6) (T := TX6) (N := 4) (n := 4) hts2 inX6 (hts _ tk_130)
  obtain ⟨c7, i7, hKn7⟩ := u_known (C := RX7) (T := TX7) (N := 9) (n := 9) hts2 inX7 (hts _ tk_105)
  obtain ⟨c8, i8, hKn8⟩ := u_known (C := RX8) (T := TX8) (N := 36) (n := 36) hts2 inX8 (hts _ tk_783)
  obtain ⟨dC, dI, hKc⟩ : ∃ (dC : Nat → ClassId) (dI : Nat → Nat → Nat), ∀ (k : Nat) (q : vw_C), vwCl[k]? = some q → u_Kn s q.1 q.2.1 q.2.2 (dC k) (dI k) := by
    refine ⟨fun k => if k = 0 then c0 else if k = 1 then c1 else if k = 2 then c2 else if k = 3 then c3 else if k = 4 then c4 else if k = 5 then c5 else if k = 6 then c6 else if k = 7 then c7 else c8, fun k => if k = 0 then i0 else if k = 1 then i1 else if k = 2 then i2 else if k = 3 then i3 else if k = 4 then i4 else if k = 5 then i5 else if k = 6 then i6 else if k = 7 then i7 else i8, ?_⟩
    intro k q hq
    match k, hq with
    | 0, hq => cases hq; exact hKn0
    | 1, hq => cases hq; exact hKn1
    | 2, hq => cases hq; exact hKn2
    | 3, hq => cases hq; exact hKn3
    | 4, hq => cases hq; exact hKn4
    | 5, hq => cases hq; exact hKn5
    | 6, hq => cases hq; exact hKn6
    | 7, hq => cases hq; exact hKn7
    | 8, hq => cases hq; exact hKn8
    | k + 9, hq => simp [vwCl] at hq
  have hS : va_S (fun q : Nat => s.heap.size ≤ q) s.heap s.heap [] := va_S.rf
  have hK : va_K (dC, dI) vwCl [(cy, .int)] s := ⟨hKc, fun k q h => by
    match k, h with
    | 0, h => cases h; exact ⟨hcy1, hcy2⟩
    | k + 1, h => simp at h⟩
  have hP : va_P (dC, dI) vwCl (kWs cy (fun _ => b) 0 (fun _ => .inl (0, fun _ => 0))) s.heap := fun k q h => by simp [kWs] at h
  have hD : va_D (fun q : Nat => s.heap.size ≤ q) (kWs cy (fun _ => b) 0 (fun _ => .inl (0, fun _ => 0))) := ⟨fun i j p q h => by simp [kWs] at h, fun k q h => by simp [kWs] at h⟩
  have hl := lv_entry ([.ref b]) (n := 4) (Nat.le_of_ble_eq_true rfl)
  rw [lg_entry_eq]
  generalize (lg_sl ([.ref b]) ++ List.replicate (4 - (lg_sl ([.ref b])).length) Slot.unset).toArray = ls at hl ⊢
  have hl : lv_has ls 4 [(0, .ref b)] := hl
  refine law_mk (d := 3) (n := 0) (pc := 0) (ci := 7) (fs := [.null, .null, .null, .null, .null, .null, .null, .int 0, .int 0]) (M2 := kX7_init) (mc := 43) (ms := 555) (n2 := 44) ⟨hx, hb, hml, hown, hts2, hNW, hK, hA⟩ tyX7 (mTT_mem tk_104 rfl) (mTT_mem tk_105 rfl) (mTT_mem tk_92 rfl) inX7 tyX7_ok rfl (by decide +kernel) (fun _ => rfl) dL_law_0 dL_law_3 dL_law_4 (by decide) (by decide) (by decide) (by decide) (by decide) (fun i hi => absurd hi (Nat.not_lt_zero i)) okX7_init rfl rfl (by decide +kernel) (mTT_mem tk_106 rfl) (mTT_mem tk_107 rfl) (kc_X (d := 0) (cloW.push (n := 0) (fun i hi => absurd hi (Nat.not_lt_zero i)) rfl) mUp_eq) hl.1 hP hD hS (fun as1 H1 locs1 hag1 hP1 hD1 hS1 => ?_)
  refine lv_astore_n (lv' := [(1, .ref (as1 0)), (0, .ref b)]) hx hb dL_law_7 rfl hl (by decide) rfl (fun ls hl => ?_)
  refine law_mk (d := 3) (n := 44) (pc := 8) (ci := 8) (fs := [.int 0, .int 0, .null, .null, .null, .int 0, .int 0, .int 0, .null, .null, .null, .null, .null, .null, .null, .null, .null, .int 0, .int 0, .int 0, .null, .null, .null, .null, .null, .null, .int 0, .null, .null, .int 0, .int 0, .null, .int 0, .null, .null, .null]) (M2 := kX8_init) (mc := 24) (ms := 387) (n2 := 69) ⟨hx, hb, hml, hown, hts2, hNW, hK, hA⟩ tyX8 (mTT_mem tk_782 rfl) (mTT_mem tk_783 rfl) (mTT_mem tk_100 rfl) inX8 tyX8_ok rfl (by decide +kernel) (fun _ => rfl) dL_law_8 dL_law_11 dL_law_12 (by decide) (by decide) (by decide) (by decide) (by decide) kwX_clo okX8_init rfl rfl (by decide +kernel) (mTT_mem tk_784 rfl) (mTT_mem tk_785 rfl) (kc_M (d := 2) (cloW.push kwX_clo rfl) mUp_eq) hl.1 hP1 hD1 hS1 (fun as2 H2 locs2 hag2 hP2 hD2 hS2 => ?_)
  refine lv_astore_n (lv' := [(2, .ref (as2 44)), (1, .ref (as1 0)), (0, .ref b)]) hx hb dL_law_15 rfl hl (by decide) rfl (fun ls hl => ?_)
  refine lv_iconst (v := 0) hx hb dL_law_16 (by decide) ?_
  refine lv_istore_n (lv' := [(3, .int 0), (2, .ref (as2 44)), (1, .ref (as1 0)), (0, .ref b)]) hx hb dL_law_17 rfl hl (by decide) rfl (fun ls hl => ?_)
  have h100 : as2 100 = b := (hag2 100 (Or.inr rfl)).trans (hag1 100 (Or.inr rfl))
  have h0 : as2 0 = as1 0 := hag2 0 (Or.inl (by decide))
  refine law_loop (b := b) (L := L) (xs := xs) hL L 0 kWf kInv (by omega) (by omega) p l e room_1 s m _ below meth c (dC, dI) cy as2 (fun q : Nat => s.heap.size ≤ q) s.heap _ _ _ ⟨hx, hb, hml, hown, hts2, hNW, hK, hA, by decide, by decide, by decide, by decide⟩ ⟨hX, hbl, hbA, h100⟩ ?_ H2 locs2 ls hP2 hD2 hS2 ⟨hl.1, hl.2.1, ?_⟩
  · intro v w' H locs ls pc _ hq hP hD hS hret
    have hq : v = some (.int 1) := hq
    subst hq
    refine va_forget (fun q hq => hS.2.2 q hq) ?_
    refine W.widen (k := 600000) (n := 7302250) (by decide) (by decide) ?_
    exact lw_ret hx hb hr hlocks hret.1
  · intro i v hi hv
    match i, hi with
    | 0, hi => cases hi; show _ = some (Slot.val (Value.ref (as2 100))); rw [h100]; exact hl.2.2 (0, _) (by simp)
    | 1, hi => cases hi; show _ = some (Slot.val (Value.ref (as2 0))); rw [h0]; exact hl.2.2 (1, _) (by simp)
    | 2, hi => cases hi; exact hl.2.2 (2, _) (by simp)
    | 3, hi => cases hi; exact hl.2.2 (3, .int 0) (by simp)
    | i + 4, hi => simp at hi
