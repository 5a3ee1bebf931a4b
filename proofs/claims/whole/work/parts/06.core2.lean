-- Math, System.arraycopy
theorem tc_m : (Jvm.Cond.initialized "java/lang/Math") ∈ lw_tbl := List.mem_of_getElem? (i := 101) (by decide +kernel)
theorem x_mmax {X : mX} {d : Nat} {M : mM} {Q : Option Value → mW → Prop} {pc : Nat} {L st : List Value} {w : mW} {x y : Int32} {idx : Nat} (hk : Cond.methodLink M.1.cls idx Lib.Math.max.name ∈ mTT) (hd : decode M.2.1 pc = .ok (.invokestatic idx, 3)) (hr : (st.map fun v => v.category).sum ≤ 8) (k : mJ X (d + 1) M Q (pc + 3) L (.int (if x < y then y else x) :: st) w) : mJ X (d + 1) M Q pc L (.int y :: .int x :: st) w := by
  intro p l e R s m args below meth c D cy as A H0 cells slots Z hC hX hE H locs ls hP hD hS hl
  have hts := hC.2.2.2.2.1
  have hrest : ((st.map (mTr as)).map fun v => v.category).sum ≤ 8 := by rw [List.map_map]; simpa [Function.comp_def, mTr_cat] using hr
  have h1 := hC.2.2.2.2.2.2.2.2.1
  have h2 := hC.2.2.2.2.2.2.2.2.2.1
  exact va_mmax hC.1 hC.2.1 (hC.2.2.1.trans hl.1.symm) hC.2.2.2.1 (hts _ hk) (hts _ (mTT_mem t_383 rfl)) (hts _ (mTT_mem tc_m rfl)) (hts _ (mTT_mem t_384 rfl)) (by omega) (by omega) hC.2.2.2.2.2.2.2.2.2.2.1 hC.2.2.2.2.2.2.2.2.2.2.2 hd (k p l e R s m args below meth c D cy as A H0 cells slots Z hC hX hE H locs ls hP hD hS hl)
theorem x_mmin {X : mX} {d : Nat} {M : mM} {Q : Option Value → mW → Prop} {pc : Nat} {L st : List Value} {w : mW} {x y : Int32} {idx : Nat} (hk : Cond.methodLink M.1.cls idx Lib.Math.min.name ∈ mTT) (hd : decode M.2.1 pc = .ok (.invokestatic idx, 3)) (hr : (st.map fun v => v.category).sum ≤ 8) (k : mJ X (d + 1) M Q (pc + 3) L (.int (if y < x then y else x) :: st) w) : mJ X (d + 1) M Q pc L (.int y :: .int x :: st) w := by
  intro p l e R s m args below meth c D cy as A H0 cells slots Z hC hX hE H locs ls hP hD hS hl
  have hts := hC.2.2.2.2.1
  have hrest : ((st.map (mTr as)).map fun v => v.category).sum ≤ 8 := by rw [List.map_map]; simpa [Function.comp_def, mTr_cat] using hr
  have h1 := hC.2.2.2.2.2.2.2.2.1
  have h2 := hC.2.2.2.2.2.2.2.2.2.1
  exact va_mmin hC.1 hC.2.1 (hC.2.2.1.trans hl.1.symm) hC.2.2.2.1 (hts _ hk) (hts _ (mTT_mem t_380 rfl)) (hts _ (mTT_mem tc_m rfl)) (hts _ (mTT_mem t_381 rfl)) (by omega) (by omega) hC.2.2.2.2.2.2.2.2.2.2.1 hC.2.2.2.2.2.2.2.2.2.2.2 hd (k p l e R s m args below meth c D cy as A H0 cells slots Z hC hX hE H locs ls hP hD hS hl)
theorem x_mabs {X : mX} {d : Nat} {M : mM} {Q : Option Value → mW → Prop} {pc : Nat} {L st : List Value} {w : mW} {x : Int32} {idx : Nat} (hk : Cond.methodLink M.1.cls idx Lib.Math.abs.name ∈ mTT) (hd : decode M.2.1 pc = .ok (.invokestatic idx, 3)) (hr : (st.map fun v => v.category).sum ≤ 8) (k : mJ X (d + 1) M Q (pc + 3) L (.int (if 0 ≤ x then x else 0 - x) :: st) w) : mJ X (d + 1) M Q pc L (.int x :: st) w := by
  intro p l e R s m args below meth c D cy as A H0 cells slots Z hC hX hE H locs ls hP hD hS hl
  have hts := hC.2.2.2.2.1
  have hrest : ((st.map (mTr as)).map fun v => v.category).sum ≤ 8 := by rw [List.map_map]; simpa [Function.comp_def, mTr_cat] using hr
  have h1 := hC.2.2.2.2.2.2.2.2.1
  have h2 := hC.2.2.2.2.2.2.2.2.2.1
  exact va_mabs hC.1 hC.2.1 (hC.2.2.1.trans hl.1.symm) hC.2.2.2.1 (hts _ hk) (hts _ (mTT_mem t_482 rfl)) (hts _ (mTT_mem tc_m rfl)) (hts _ (mTT_mem t_483 rfl)) (by omega) (by omega) hC.2.2.2.2.2.2.2.2.2.2.1 hC.2.2.2.2.2.2.2.2.2.2.2 hd (k p l e R s m args below meth c D cy as A H0 cells slots Z hC hX hE H locs ls hP hD hS hl)
theorem tc_a : (Jvm.Cond.methodLink "BarrowNights$Sheets" (39 : Nat) ({ cls := "java/lang/System", name := "arraycopy", desc := "(Ljava/lang/Object;ILjava/lang/Object;II)V" } : Jvm.MethodName)) ∈ lw_tbl := List.mem_of_getElem? (i := 730) (by decide +kernel)
theorem tc_b : (Jvm.Cond.native ({ cls := "java/lang/System", name := "arraycopy", desc := "(Ljava/lang/Object;ILjava/lang/Object;II)V" } : Jvm.MethodName)) ∈ lw_tbl := List.mem_of_getElem? (i := 732) (by decide +kernel)
theorem tc_c : (Jvm.Cond.static ({ cls := "java/lang/System", name := "arraycopy", desc := "(Ljava/lang/Object;ILjava/lang/Object;II)V" } : Jvm.MethodName)) ∈ lw_tbl := List.mem_of_getElem? (i := 731) (by decide +kernel)
theorem tc_d : (Jvm.Cond.initialized "java/lang/System") ∈ lw_tbl := List.mem_of_getElem? (i := 103) (by decide +kernel)
theorem x_copy {X : mX} {d : Nat} {M : mM} {Q : Option Value → mW → Prop} {pc : Nat} {L st : List Value} {w : mW} {a b n0 n1 : Nat} {f g : Nat → Int32} {sp dp n : Int32} (hM : M.1.cls = RX5) (hd : decode M.2.1 pc = .ok (.invokestatic 39, 3)) (ha : a < mCells) (hb : b < mCells) (hwa : w a = .inl (n0, f)) (hwb : w b = .inl (n1, g)) (h1 : ¬ sp < 0) (h2 : ¬ dp < 0) (h3 : ¬ n < 0) (h4 : sp.toNatClampNeg + n.toNatClampNeg ≤ n0) (h5 : dp.toNatClampNeg + n.toNatClampNeg ≤ n1) (hr : (st.map fun v => v.category).sum ≤ 8) (kk : mJ X (d + 1) M Q (pc + 3) L st (mUp w b (.inl (n1, va_cpy f g sp.toNatClampNeg dp.toNatClampNeg n.toNatClampNeg)))) : mJ X (d + 1) M Q pc L (.int n :: .int dp :: .ref b :: .int sp :: .ref a :: st) w := by
  intro p l e R s m args below meth c D cy as A H0 cells slots Z hC hX hE H locs ls hP hD hS hl
  have hts := hC.2.2.2.2.1
  have hrest : ((st.map (mTr as)).map fun v => v.category).sum ≤ 8 := by rw [List.map_map]; simpa [Function.comp_def, mTr_cat] using hr
  have h6 := hC.2.2.2.2.2.2.2.2.1
  have h7 := hC.2.2.2.2.2.2.2.2.2.1
  have hown : s.vm.findClass RX5 = some m.cls := by rw [← hM]; exact hC.2.2.2.1
  have hnf : nativeFrameWords "java/lang/System" "arraycopy" 5 = 7 := by decide +kernel
  refine va_copyi hC.1 hC.2.1 (hC.2.2.1.trans hl.1.symm) hown (hts _ (mTT_mem tc_a rfl)) (hts _ (mTT_mem tc_b rfl)) (hts _ (mTT_mem tc_c rfl)) (hts _ (mTT_mem tc_d rfl)) hC.2.2.2.2.2.2.1 hP hD hS a b 0 0 (mE_inl cy as ha hwa) (mE_inl cy as hb hwb) rfl rfl rfl h1 h2 h3 h4 h5 (fun _ _ => rfl) (by omega) (by rw [hnf]; omega) hd (fun H1 locs1 hP1 hD1 hS1 => ?_)
  have hset : (mWs cy as w).set b (as b, .inl (cy, n1, .inl (va_cpy f g sp.toNatClampNeg dp.toNatClampNeg n.toNatClampNeg))) = mWs cy as (mUp w b (.inl (n1, va_cpy f g sp.toNatClampNeg dp.toNatClampNeg n.toNatClampNeg))) := mWs_set cy as w hb (.inl (n1, va_cpy f g sp.toNatClampNeg dp.toNatClampNeg n.toNatClampNeg))
  rw [hset] at hP1 hD1
  exact kk p l e R s m args below meth c D cy as A H0 cells slots Z hC hX (fun v w2 H locs ls pc hk => hE v w2 H locs ls pc (mK.tr (mK.up hwb (by rfl)) hk)) H1 locs1 ls hP1 hD1 hS1 hl
