-- copy
theorem x_cpN {X : mX} {d : Nat} {M : mM} {Q : Option Value → mW → Prop} {pc : Nat} {L st : List Value} {w : mW} {a b n : Nat} (hS : Shape w) (hM : M.1.cls = RX5) (hd : decode M.2.1 pc = .ok (.invokestatic 39, 3)) (h4 : a + n ≤ 240) (h5 : b + n ≤ 240) (hr : (st.map fun v => v.category).sum ≤ 8) (kk : Shape (setA w 4 (va_cpy (arr w 4) (arr w 4) a b n)) → mJ X (d + 1) M Q (pc + 3) L st (setA w 4 (va_cpy (arr w 4) (arr w 4) a b n))) : mJ X (d + 1) M Q pc L (.int (nI n) :: .int (nI b) :: .ref 4 :: .int (nI a) :: .ref 4 :: st) w := by
  have hw := hS.ar (a := 4) (n := 240) rfl
  refine x_copy hM hd (by decide) (by decide) hw hw (nI_pos (by omega)) (nI_pos (by omega)) (nI_pos (by omega)) (by rw [nI_clamp (by omega), nI_clamp (by omega)]; exact h4) (by rw [nI_clamp (by omega), nI_clamp (by omega)]; exact h5) hr ?_
  rw [nI_clamp (by omega), nI_clamp (by omega), nI_clamp (by omega)]
  have e : mUp w 4 (.inl (240, va_cpy (arr w 4) (arr w 4) a b n)) = setA w 4 (va_cpy (arr w 4) (arr w 4) a b n) := by
    funext j
    by_cases hj : j = 4
    · subst hj; simp only [mUp, setA, if_true]; rw [hw]
    · simp only [mUp, setA, if_neg hj]
  rw [e]
  exact kk (hS.stA 4 _)
theorem fCells_0 {S : Int32} {n i m : Nat} (hS : S = nI n) (hn : n ≤ 60) (hi : i + m ≤ n) : fCells S (nI i) (nI m) = 0 := by
  unfold fCells
  rw [hS, nI_toInt (by omega), nI_toInt (by omega), nI_toInt (by omega), if_pos (by omega)]
theorem fCells_or {S i m : Int32} {n : Nat} (hS : S = nI n) (hn : n ≤ 60) : fCells S i m = 3 ∨ ∃ a b, i = nI a ∧ m = nI b ∧ a + b ≤ n := by
  by_cases h : 0 ≤ i.toInt ∧ 0 ≤ m.toInt ∧ i.toInt + m.toInt ≤ S.toInt
  · refine Or.inr ⟨i.toInt.toNat, m.toInt.toNat, nI_ofT (by omega) ?_, nI_ofT (by omega) ?_, ?_⟩ <;> (rw [hS, nI_toInt (by omega)] at h; omega)
  · exact Or.inl (by unfold fCells; rw [if_neg h])
theorem c_X5_move {d : Nat} {w : mW} {k o i j n a b : Nat} (hS : Shape w) (hk : k < 4) (ho : o < 4) (hsz : arr w 3 k = nI a) (hn : a ≤ 60) (hi : i + n ≤ a) (hsz' : arr w 3 o = nI b) (hn' : b ≤ 60) (hj : j + n ≤ b) : mC (d + 2) kX5_move [.ref 1, .int (nI k), .int (nI i), .int (nI o), .int (nI j), .int (nI n)] w (fun r w' => r = none ∧ w' = setA w 4 (va_cpy (arr w 4) (arr w 4) (60 * k + i) (60 * o + j) n)) := by
  refine mC.of (L := [_, _, _, _, _, _]) okX5_move 0 rfl rfl ?_
  refine x_aload_n (pc := 0) (i := 0) dX5_move_0 rfl rfl ?_
  refine x_iload_n (pc := 1) (i := 1) dX5_move_1 rfl rfl ?_
  refine x_iload_n (pc := 2) (i := 2) dX5_move_2 rfl rfl ?_
  refine x_iload (pc := 3) dX5_move_3 rfl ?_
  refine x_vs (pc := 5) (As := [_, _, _]) rfl hS lX5_35 dX5_move_5 rfl rfl (Nat.le_of_ble_eq_true rfl) (c_X5_faultOfCells hS hk) ?_
  rintro _ _ ⟨rfl, hq⟩
  obtain rfl := hq.symm
  refine x_pushI ?_
  rw [fCells_0 hsz hn hi]
  refine x_if_ne (pc := 8) (tgt := 23) dX5_move_8 (by decide) (fun h8 => absurd h8 (by exact not_not_intro rfl)) (fun h8 => ?_)
  refine x_aload_n (pc := 11) (i := 0) dX5_move_11 rfl rfl ?_
  refine x_iload_n (pc := 12) (i := 3) dX5_move_12 rfl rfl ?_
  refine x_iload (pc := 13) dX5_move_13 rfl ?_
  refine x_iload (pc := 15) dX5_move_15 rfl ?_
  refine x_vs (pc := 17) (As := [_, _, _]) rfl hS lX5_35 dX5_move_17 rfl rfl (Nat.le_of_ble_eq_true rfl) (c_X5_faultOfCells hS ho) ?_
  rintro _ _ ⟨rfl, hq⟩
  obtain rfl := hq.symm
  refine x_pushI ?_
  rw [fCells_0 hsz' hn' hj]
  refine x_if_eq (pc := 20) (tgt := 24) dX5_move_20 (by decide) (fun h20 => ?_) (fun h20 => absurd h20 (by exact not_not_intro rfl))
  refine x_aload_n (pc := 24) (i := 0) dX5_move_24 rfl rfl ?_
  refine x_getR (pc := 25) hS fX5_18 dX5_move_25 rfl rfl ?_
  refine x_iload_n (pc := 28) (i := 1) dX5_move_28 rfl rfl ?_
  refine x_bipush (pc := 29) (v := 60) dX5_move_29 (by decide) ?_
  refine x_imul (pc := 31) dX5_move_31 ?_
  refine x_iload_n (pc := 32) (i := 2) dX5_move_32 rfl rfl ?_
  refine x_iadd (pc := 33) dX5_move_33 ?_
  rw [ix60]
  refine x_aload_n (pc := 34) (i := 0) dX5_move_34 rfl rfl ?_
  refine x_getR (pc := 35) hS fX5_18 dX5_move_35 rfl rfl ?_
  refine x_iload_n (pc := 38) (i := 3) dX5_move_38 rfl rfl ?_
  refine x_bipush (pc := 39) (v := 60) dX5_move_39 (by decide) ?_
  refine x_imul (pc := 41) dX5_move_41 ?_
  refine x_iload (pc := 42) dX5_move_42 rfl ?_
  refine x_iadd (pc := 44) dX5_move_44 ?_
  rw [ix60]
  refine x_iload (pc := 45) dX5_move_45 rfl ?_
  refine x_cpN (pc := 47) hS rfl dX5_move_47 (by omega) (by omega) (by decide) (fun hS => ?_)
  refine x_rv (pc := 50) dX5_move_50 rfl ?_
  exact ⟨rfl, rfl⟩
theorem c_X7_copy_a {d : Nat} {w : mW} {k i o j n : Int32} (hS : Shape w) (h : ¬ ((0 ≤ k ∧ k < 4) ∧ 0 ≤ o ∧ o < 4)) : mC (d + 3) kX7_copy [.ref 0, .int k, .int i, .int o, .int j, .int n] w (fun r w' => r = some (.int (-1)) ∧ w' = setF w 0 8 0) := by
  refine mC.of (L := [_, _, _, _, _, _]) okX7_copy 0 rfl rfl ?_
  refine x_aload_n (pc := 0) (i := 0) dX7_copy_0 rfl rfl ?_
  refine x_iconst (pc := 1) (v := 0) dX7_copy_1 (by decide) ?_
  refine x_putI (pc := 2) hS fX7_64 dX7_copy_2 rfl rfl rfl rfl (fun hS => ?_)
  refine x_iload_n (pc := 5) (i := 1) dX7_copy_5 rfl rfl ?_
  refine x_ss (pc := 6) (As := [_]) rfl lX7_67 dX7_copy_6 rfl (Nat.le_of_ble_eq_true rfl) c_X5_isSheet ?_
  rintro _ _ ⟨rfl, hq⟩
  obtain rfl := hq.symm
  refine x_pushI ?_
  refine x_if_eq (pc := 9) (tgt := 19) dX7_copy_9 (by decide) (fun h9 => ?_) (fun h9 => ?_)
  · refine x_iconst (pc := 19) (v := (-1)) dX7_copy_19 (by decide) ?_
    refine x_ri (pc := 20) dX7_copy_20 rfl rfl ?_
    exact ⟨rfl, rfl⟩
  · refine x_iload_n (pc := 12) (i := 3) dX7_copy_12 rfl rfl ?_
    refine x_ss (pc := 13) (As := [_]) rfl lX7_67 dX7_copy_13 rfl (Nat.le_of_ble_eq_true rfl) c_X5_isSheet ?_
    rintro _ _ ⟨rfl, hq⟩
    obtain rfl := hq.symm
    refine x_pushI ?_
    refine x_if_ne (pc := 16) (tgt := 21) dX7_copy_16 (by decide) (fun h16 => ?_) (fun h16 => ?_)
    · exfalso; (try simp only [b2_e0, b2_n0, Decidable.not_not] at *) <;> (try simp only [i_lt, i_le, i_eq, not_and, not_or, ne_eq, il_0, il_1, il_2, il_3, il_4, il_5, il_6, il_7, il_8, il_9, il_10, il_14, il_15, il_19, il_20, il_24, il_30, il_31, il_44, il_48, il_49, il_52, il_57, il_59, il_60, il_70, il_99, il_100, il_103, il_108, il_114, il_m1, il_m2, il_m3, il_m4, il_m9, il_m10, il_m100] at *) <;> omega
    · refine x_iconst (pc := 19) (v := (-1)) dX7_copy_19 (by decide) ?_
      refine x_ri (pc := 20) dX7_copy_20 rfl rfl ?_
      exact ⟨rfl, rfl⟩
theorem c_X7_copy_b {d : Nat} {w : mW} {i j n : Int32} {k o : Nat} (hS0 : Shape w) (hk : k < 4) (ho : o < 4) (h : ¬ fPair (arr w 2 k) (arr w 2 o) = 0) : mC (d + 3) kX7_copy [.ref 0, .int (nI k), .int i, .int (nI o), .int j, .int n] w (fun r w' => r = some (.int (-10 - fPair (arr w 2 k) (arr w 2 o))) ∧ w' = setF w 0 8 (fPair (arr w 2 k) (arr w 2 o))) := by
  have hS := hS0
  refine mC.of (L := [_, _, _, _, _, _]) okX7_copy 0 rfl rfl ?_
  refine x_aload_n (pc := 0) (i := 0) dX7_copy_0 rfl rfl ?_
  refine x_iconst (pc := 1) (v := 0) dX7_copy_1 (by decide) ?_
  refine x_putI (pc := 2) hS fX7_64 dX7_copy_2 rfl rfl rfl rfl (fun hS => ?_)
  refine x_iload_n (pc := 5) (i := 1) dX7_copy_5 rfl rfl ?_
  refine x_ss (pc := 6) (As := [_]) rfl lX7_67 dX7_copy_6 rfl (Nat.le_of_ble_eq_true rfl) c_X5_isSheet ?_
  rintro _ _ ⟨rfl, hq⟩
  obtain rfl := hq.symm
  refine x_pushI ?_
  refine x_if_eq (pc := 9) (tgt := 19) dX7_copy_9 (by decide) (fun h9 => absurd h9 (by rw [b2_e0]; exact not_not_intro (k4 hk))) (fun h9 => ?_)
  refine x_iload_n (pc := 12) (i := 3) dX7_copy_12 rfl rfl ?_
  refine x_ss (pc := 13) (As := [_]) rfl lX7_67 dX7_copy_13 rfl (Nat.le_of_ble_eq_true rfl) c_X5_isSheet ?_
  rintro _ _ ⟨rfl, hq⟩
  obtain rfl := hq.symm
  refine x_pushI ?_
  refine x_if_ne (pc := 16) (tgt := 21) dX7_copy_16 (by decide) (fun h16 => ?_) (fun h16 => absurd h16 (by rw [b2_n0]; exact k4 ho))
  refine x_aload_n (pc := 21) (i := 0) dX7_copy_21 rfl rfl ?_
  refine x_aload_n (pc := 22) (i := 0) dX7_copy_22 rfl rfl ?_
  refine x_getR (pc := 23) hS fX7_12 dX7_copy_23 rfl rfl ?_
  refine x_iload_n (pc := 26) (i := 1) dX7_copy_26 rfl rfl ?_
  refine x_iload_n (pc := 27) (i := 3) dX7_copy_27 rfl rfl ?_
  refine x_vs (pc := 28) (As := [_, _]) rfl hS lX7_251 dX7_copy_28 rfl rfl (Nat.le_of_ble_eq_true rfl) (c_X5_faultOfPair hS hk ho) ?_
  rintro _ _ ⟨rfl, hq⟩
  obtain rfl := hq.symm
  refine x_pushI ?_
  rw [arr_setF]
  refine x_putI (pc := 31) hS fX7_64 dX7_copy_31 rfl rfl rfl rfl (fun hS => ?_)
  rw [setF_setF]
  have hS := hS0.stF (a := 0) (k := 8) rfl rfl (fPair (arr w 2 k) (arr w 2 o))
  refine x_aload_n (pc := 34) (i := 0) dX7_copy_34 rfl rfl ?_
  refine x_getI (pc := 35) hS fX7_64 dX7_copy_35 rfl rfl ?_
  rw [fld_setF hS0 rfl rfl]
  refine x_if_ne (pc := 38) (tgt := 56) dX7_copy_38 (by decide) (fun h38 => ?_) (fun h38 => absurd h38 (by exact h))
  refine x_aload_n (pc := 56) (i := 0) dX7_copy_56 rfl rfl ?_
  refine x_getI (pc := 57) hS fX7_64 dX7_copy_57 rfl rfl ?_
  rw [fld_setF hS0 rfl rfl]
  refine x_if_ne (pc := 60) (tgt := 79) dX7_copy_60 (by decide) (fun h60 => ?_) (fun h60 => absurd h60 (by exact h))
  refine x_aload_n (pc := 79) (i := 0) dX7_copy_79 rfl rfl ?_
  refine x_getI (pc := 80) hS fX7_64 dX7_copy_80 rfl rfl ?_
  rw [fld_setF hS0 rfl rfl]
  refine x_if_eq (pc := 83) (tgt := 94) dX7_copy_83 (by decide) (fun h83 => absurd h83 (by exact h)) (fun h83 => ?_)
  refine x_bipush (pc := 86) (v := (-10)) dX7_copy_86 (by decide) ?_
  refine x_aload_n (pc := 88) (i := 0) dX7_copy_88 rfl rfl ?_
  refine x_getI (pc := 89) hS fX7_64 dX7_copy_89 rfl rfl ?_
  refine x_isub (pc := 92) dX7_copy_92 ?_
  refine x_ri (pc := 93) dX7_copy_93 rfl rfl ?_
  rw [fld_setF hS0 rfl rfl]; exact ⟨rfl, rfl⟩
theorem c_X7_copy_c {d : Nat} {w : mW} {i j n : Int32} {k o : Nat} (hS0 : Shape w) (hk : k < 4) (ho : o < 4) (h : fPair (arr w 2 k) (arr w 2 o) = 0) (h1 : fCells (arr w 3 k) i n = 3) : mC (d + 3) kX7_copy [.ref 0, .int (nI k), .int i, .int (nI o), .int j, .int n] w (fun r w' => r = some (.int (-13)) ∧ w' = setF w 0 8 3) := by
  have hS := hS0
  refine mC.of (L := [_, _, _, _, _, _]) okX7_copy 0 rfl rfl ?_
  refine x_aload_n (pc := 0) (i := 0) dX7_copy_0 rfl rfl ?_
  refine x_iconst (pc := 1) (v := 0) dX7_copy_1 (by decide) ?_
  refine x_putI (pc := 2) hS fX7_64 dX7_copy_2 rfl rfl rfl rfl (fun hS => ?_)
  refine x_iload_n (pc := 5) (i := 1) dX7_copy_5 rfl rfl ?_
  refine x_ss (pc := 6) (As := [_]) rfl lX7_67 dX7_copy_6 rfl (Nat.le_of_ble_eq_true rfl) c_X5_isSheet ?_
  rintro _ _ ⟨rfl, hq⟩
  obtain rfl := hq.symm
  refine x_pushI ?_
  refine x_if_eq (pc := 9) (tgt := 19) dX7_copy_9 (by decide) (fun h9 => absurd h9 (by rw [b2_e0]; exact not_not_intro (k4 hk))) (fun h9 => ?_)
  refine x_iload_n (pc := 12) (i := 3) dX7_copy_12 rfl rfl ?_
  refine x_ss (pc := 13) (As := [_]) rfl lX7_67 dX7_copy_13 rfl (Nat.le_of_ble_eq_true rfl) c_X5_isSheet ?_
  rintro _ _ ⟨rfl, hq⟩
  obtain rfl := hq.symm
  refine x_pushI ?_
  refine x_if_ne (pc := 16) (tgt := 21) dX7_copy_16 (by decide) (fun h16 => ?_) (fun h16 => absurd h16 (by rw [b2_n0]; exact k4 ho))
  refine x_aload_n (pc := 21) (i := 0) dX7_copy_21 rfl rfl ?_
  refine x_aload_n (pc := 22) (i := 0) dX7_copy_22 rfl rfl ?_
  refine x_getR (pc := 23) hS fX7_12 dX7_copy_23 rfl rfl ?_
  refine x_iload_n (pc := 26) (i := 1) dX7_copy_26 rfl rfl ?_
  refine x_iload_n (pc := 27) (i := 3) dX7_copy_27 rfl rfl ?_
  refine x_vs (pc := 28) (As := [_, _]) rfl hS lX7_251 dX7_copy_28 rfl rfl (Nat.le_of_ble_eq_true rfl) (c_X5_faultOfPair hS hk ho) ?_
  rintro _ _ ⟨rfl, hq⟩
  obtain rfl := hq.symm
  refine x_pushI ?_
  rw [arr_setF, h]
  refine x_putI (pc := 31) hS fX7_64 dX7_copy_31 rfl rfl rfl rfl (fun hS => ?_)
  rw [setF_setF]
  have hS := hS0.stF (a := 0) (k := 8) rfl rfl 0
  refine x_aload_n (pc := 34) (i := 0) dX7_copy_34 rfl rfl ?_
  refine x_getI (pc := 35) hS fX7_64 dX7_copy_35 rfl rfl ?_
  rw [fld_setF hS0 rfl rfl]
  refine x_if_ne (pc := 38) (tgt := 56) dX7_copy_38 (by decide) (fun h38 => absurd h38 (by exact not_not_intro rfl)) (fun h38 => ?_)
  refine x_aload_n (pc := 41) (i := 0) dX7_copy_41 rfl rfl ?_
  refine x_aload_n (pc := 42) (i := 0) dX7_copy_42 rfl rfl ?_
  refine x_getR (pc := 43) hS fX7_12 dX7_copy_43 rfl rfl ?_
  refine x_iload_n (pc := 46) (i := 1) dX7_copy_46 rfl rfl ?_
  refine x_iload_n (pc := 47) (i := 2) dX7_copy_47 rfl rfl ?_
  refine x_iload (pc := 48) dX7_copy_48 rfl ?_
  refine x_vs (pc := 50) (As := [_, _, _]) rfl hS lX7_78 dX7_copy_50 rfl rfl (Nat.le_of_ble_eq_true rfl) (c_X5_faultOfCells hS hk) ?_
  rintro _ _ ⟨rfl, hq⟩
  obtain rfl := hq.symm
  refine x_pushI ?_
  rw [arr_setF, h1]
  refine x_putI (pc := 53) hS fX7_64 dX7_copy_53 rfl rfl rfl rfl (fun hS => ?_)
  rw [setF_setF]
  have hS := hS0.stF (a := 0) (k := 8) rfl rfl 3
  refine x_aload_n (pc := 56) (i := 0) dX7_copy_56 rfl rfl ?_
  refine x_getI (pc := 57) hS fX7_64 dX7_copy_57 rfl rfl ?_
  rw [fld_setF hS0 rfl rfl]
  refine x_if_ne (pc := 60) (tgt := 79) dX7_copy_60 (by decide) (fun h60 => ?_) (fun h60 => absurd h60 (by decide))
  refine x_aload_n (pc := 79) (i := 0) dX7_copy_79 rfl rfl ?_
  refine x_getI (pc := 80) hS fX7_64 dX7_copy_80 rfl rfl ?_
  rw [fld_setF hS0 rfl rfl]
  refine x_if_eq (pc := 83) (tgt := 94) dX7_copy_83 (by decide) (fun h83 => absurd h83 (by decide)) (fun h83 => ?_)
  refine x_bipush (pc := 86) (v := (-10)) dX7_copy_86 (by decide) ?_
  refine x_aload_n (pc := 88) (i := 0) dX7_copy_88 rfl rfl ?_
  refine x_getI (pc := 89) hS fX7_64 dX7_copy_89 rfl rfl ?_
  refine x_isub (pc := 92) dX7_copy_92 ?_
  refine x_ri (pc := 93) dX7_copy_93 rfl rfl ?_
  rw [fld_setF hS0 rfl rfl]; exact ⟨rfl, rfl⟩
theorem c_X7_copy_e {d : Nat} {w : mW} {i j n : Int32} {k o : Nat} (hS0 : Shape w) (hk : k < 4) (ho : o < 4) (h : fPair (arr w 2 k) (arr w 2 o) = 0) (h1 : fCells (arr w 3 k) i n = 0) (h2 : fCells (arr w 3 o) j n = 3) : mC (d + 3) kX7_copy [.ref 0, .int (nI k), .int i, .int (nI o), .int j, .int n] w (fun r w' => r = some (.int (-13)) ∧ w' = setF w 0 8 3) := by
  have hS := hS0
  refine mC.of (L := [_, _, _, _, _, _]) okX7_copy 0 rfl rfl ?_
  refine x_aload_n (pc := 0) (i := 0) dX7_copy_0 rfl rfl ?_
  refine x_iconst (pc := 1) (v := 0) dX7_copy_1 (by decide) ?_
  refine x_putI (pc := 2) hS fX7_64 dX7_copy_2 rfl rfl rfl rfl (fun hS => ?_)
  refine x_iload_n (pc := 5) (i := 1) dX7_copy_5 rfl rfl ?_
  refine x_ss (pc := 6) (As := [_]) rfl lX7_67 dX7_copy_6 rfl (Nat.le_of_ble_eq_true rfl) c_X5_isSheet ?_
  rintro _ _ ⟨rfl, hq⟩
  obtain rfl := hq.symm
  refine x_pushI ?_
  refine x_if_eq (pc := 9) (tgt := 19) dX7_copy_9 (by decide) (fun h9 => absurd h9 (by rw [b2_e0]; exact not_not_intro (k4 hk))) (fun h9 => ?_)
  refine x_iload_n (pc := 12) (i := 3) dX7_copy_12 rfl rfl ?_
  refine x_ss (pc := 13) (As := [_]) rfl lX7_67 dX7_copy_13 rfl (Nat.le_of_ble_eq_true rfl) c_X5_isSheet ?_
  rintro _ _ ⟨rfl, hq⟩
  obtain rfl := hq.symm
  refine x_pushI ?_
  refine x_if_ne (pc := 16) (tgt := 21) dX7_copy_16 (by decide) (fun h16 => ?_) (fun h16 => absurd h16 (by rw [b2_n0]; exact k4 ho))
  refine x_aload_n (pc := 21) (i := 0) dX7_copy_21 rfl rfl ?_
  refine x_aload_n (pc := 22) (i := 0) dX7_copy_22 rfl rfl ?_
  refine x_getR (pc := 23) hS fX7_12 dX7_copy_23 rfl rfl ?_
  refine x_iload_n (pc := 26) (i := 1) dX7_copy_26 rfl rfl ?_
  refine x_iload_n (pc := 27) (i := 3) dX7_copy_27 rfl rfl ?_
  refine x_vs (pc := 28) (As := [_, _]) rfl hS lX7_251 dX7_copy_28 rfl rfl (Nat.le_of_ble_eq_true rfl) (c_X5_faultOfPair hS hk ho) ?_
  rintro _ _ ⟨rfl, hq⟩
  obtain rfl := hq.symm
  refine x_pushI ?_
  rw [arr_setF, h]
  refine x_putI (pc := 31) hS fX7_64 dX7_copy_31 rfl rfl rfl rfl (fun hS => ?_)
  rw [setF_setF]
  have hS := hS0.stF (a := 0) (k := 8) rfl rfl 0
  refine x_aload_n (pc := 34) (i := 0) dX7_copy_34 rfl rfl ?_
  refine x_getI (pc := 35) hS fX7_64 dX7_copy_35 rfl rfl ?_
  rw [fld_setF hS0 rfl rfl]
  refine x_if_ne (pc := 38) (tgt := 56) dX7_copy_38 (by decide) (fun h38 => absurd h38 (by exact not_not_intro rfl)) (fun h38 => ?_)
  refine x_aload_n (pc := 41) (i := 0) dX7_copy_41 rfl rfl ?_
  refine x_aload_n (pc := 42) (i := 0) dX7_copy_42 rfl rfl ?_
  refine x_getR (pc := 43) hS fX7_12 dX7_copy_43 rfl rfl ?_
  refine x_iload_n (pc := 46) (i := 1) dX7_copy_46 rfl rfl ?_
  refine x_iload_n (pc := 47) (i := 2) dX7_copy_47 rfl rfl ?_
  refine x_iload (pc := 48) dX7_copy_48 rfl ?_
  refine x_vs (pc := 50) (As := [_, _, _]) rfl hS lX7_78 dX7_copy_50 rfl rfl (Nat.le_of_ble_eq_true rfl) (c_X5_faultOfCells hS hk) ?_
  rintro _ _ ⟨rfl, hq⟩
  obtain rfl := hq.symm
  refine x_pushI ?_
  rw [arr_setF, h1]
  refine x_putI (pc := 53) hS fX7_64 dX7_copy_53 rfl rfl rfl rfl (fun hS => ?_)
  rw [setF_setF]
  have hS := hS0.stF (a := 0) (k := 8) rfl rfl 0
  refine x_aload_n (pc := 56) (i := 0) dX7_copy_56 rfl rfl ?_
  refine x_getI (pc := 57) hS fX7_64 dX7_copy_57 rfl rfl ?_
  rw [fld_setF hS0 rfl rfl]
  refine x_if_ne (pc := 60) (tgt := 79) dX7_copy_60 (by decide) (fun h60 => absurd h60 (by exact not_not_intro rfl)) (fun h60 => ?_)
  refine x_aload_n (pc := 63) (i := 0) dX7_copy_63 rfl rfl ?_
  refine x_aload_n (pc := 64) (i := 0) dX7_copy_64 rfl rfl ?_
  refine x_getR (pc := 65) hS fX7_12 dX7_copy_65 rfl rfl ?_
  refine x_iload_n (pc := 68) (i := 3) dX7_copy_68 rfl rfl ?_
  refine x_iload (pc := 69) dX7_copy_69 rfl ?_
  refine x_iload (pc := 71) dX7_copy_71 rfl ?_
  refine x_vs (pc := 73) (As := [_, _, _]) rfl hS lX7_78 dX7_copy_73 rfl rfl (Nat.le_of_ble_eq_true rfl) (c_X5_faultOfCells hS ho) ?_
  rintro _ _ ⟨rfl, hq⟩
  obtain rfl := hq.symm
  refine x_pushI ?_
  rw [arr_setF, h2]
  refine x_putI (pc := 76) hS fX7_64 dX7_copy_76 rfl rfl rfl rfl (fun hS => ?_)
  rw [setF_setF]
  have hS := hS0.stF (a := 0) (k := 8) rfl rfl 3
  refine x_aload_n (pc := 79) (i := 0) dX7_copy_79 rfl rfl ?_
  refine x_getI (pc := 80) hS fX7_64 dX7_copy_80 rfl rfl ?_
  rw [fld_setF hS0 rfl rfl]
  refine x_if_eq (pc := 83) (tgt := 94) dX7_copy_83 (by decide) (fun h83 => absurd h83 (by decide)) (fun h83 => ?_)
  refine x_bipush (pc := 86) (v := (-10)) dX7_copy_86 (by decide) ?_
  refine x_aload_n (pc := 88) (i := 0) dX7_copy_88 rfl rfl ?_
  refine x_getI (pc := 89) hS fX7_64 dX7_copy_89 rfl rfl ?_
  refine x_isub (pc := 92) dX7_copy_92 ?_
  refine x_ri (pc := 93) dX7_copy_93 rfl rfl ?_
  rw [fld_setF hS0 rfl rfl]; exact ⟨rfl, rfl⟩
theorem c_X7_copy_d {d : Nat} {w : mW} {k o i j n a b : Nat} (hS0 : Shape w) (hk : k < 4) (ho : o < 4) (h : fPair (arr w 2 k) (arr w 2 o) = 0) (hsz : arr w 3 k = nI a) (hn : a ≤ 60) (hi : i + n ≤ a) (hsz' : arr w 3 o = nI b) (hn' : b ≤ 60) (hj : j + n ≤ b) : mC (d + 3) kX7_copy [.ref 0, .int (nI k), .int (nI i), .int (nI o), .int (nI j), .int (nI n)] w (fun r w' => r = some (.int (nI n)) ∧ w' = setA (setF w 0 8 0) 4 (va_cpy (arr w 4) (arr w 4) (60 * k + i) (60 * o + j) n)) := by
  have hS := hS0
  refine mC.of (L := [_, _, _, _, _, _]) okX7_copy 0 rfl rfl ?_
  refine x_aload_n (pc := 0) (i := 0) dX7_copy_0 rfl rfl ?_
  refine x_iconst (pc := 1) (v := 0) dX7_copy_1 (by decide) ?_
  refine x_putI (pc := 2) hS fX7_64 dX7_copy_2 rfl rfl rfl rfl (fun hS => ?_)
  refine x_iload_n (pc := 5) (i := 1) dX7_copy_5 rfl rfl ?_
  refine x_ss (pc := 6) (As := [_]) rfl lX7_67 dX7_copy_6 rfl (Nat.le_of_ble_eq_true rfl) c_X5_isSheet ?_
  rintro _ _ ⟨rfl, hq⟩
  obtain rfl := hq.symm
  refine x_pushI ?_
  refine x_if_eq (pc := 9) (tgt := 19) dX7_copy_9 (by decide) (fun h9 => absurd h9 (by rw [b2_e0]; exact not_not_intro (k4 hk))) (fun h9 => ?_)
  refine x_iload_n (pc := 12) (i := 3) dX7_copy_12 rfl rfl ?_
  refine x_ss (pc := 13) (As := [_]) rfl lX7_67 dX7_copy_13 rfl (Nat.le_of_ble_eq_true rfl) c_X5_isSheet ?_
  rintro _ _ ⟨rfl, hq⟩
  obtain rfl := hq.symm
  refine x_pushI ?_
  refine x_if_ne (pc := 16) (tgt := 21) dX7_copy_16 (by decide) (fun h16 => ?_) (fun h16 => absurd h16 (by rw [b2_n0]; exact k4 ho))
  refine x_aload_n (pc := 21) (i := 0) dX7_copy_21 rfl rfl ?_
  refine x_aload_n (pc := 22) (i := 0) dX7_copy_22 rfl rfl ?_
  refine x_getR (pc := 23) hS fX7_12 dX7_copy_23 rfl rfl ?_
  refine x_iload_n (pc := 26) (i := 1) dX7_copy_26 rfl rfl ?_
  refine x_iload_n (pc := 27) (i := 3) dX7_copy_27 rfl rfl ?_
  refine x_vs (pc := 28) (As := [_, _]) rfl hS lX7_251 dX7_copy_28 rfl rfl (Nat.le_of_ble_eq_true rfl) (c_X5_faultOfPair hS hk ho) ?_
  rintro _ _ ⟨rfl, hq⟩
  obtain rfl := hq.symm
  refine x_pushI ?_
  rw [arr_setF, h]
  refine x_putI (pc := 31) hS fX7_64 dX7_copy_31 rfl rfl rfl rfl (fun hS => ?_)
  rw [setF_setF]
  have hS := hS0.stF (a := 0) (k := 8) rfl rfl 0
  refine x_aload_n (pc := 34) (i := 0) dX7_copy_34 rfl rfl ?_
  refine x_getI (pc := 35) hS fX7_64 dX7_copy_35 rfl rfl ?_
  rw [fld_setF hS0 rfl rfl]
  refine x_if_ne (pc := 38) (tgt := 56) dX7_copy_38 (by decide) (fun h38 => absurd h38 (by exact not_not_intro rfl)) (fun h38 => ?_)
  refine x_aload_n (pc := 41) (i := 0) dX7_copy_41 rfl rfl ?_
  refine x_aload_n (pc := 42) (i := 0) dX7_copy_42 rfl rfl ?_
  refine x_getR (pc := 43) hS fX7_12 dX7_copy_43 rfl rfl ?_
  refine x_iload_n (pc := 46) (i := 1) dX7_copy_46 rfl rfl ?_
  refine x_iload_n (pc := 47) (i := 2) dX7_copy_47 rfl rfl ?_
  refine x_iload (pc := 48) dX7_copy_48 rfl ?_
  refine x_vs (pc := 50) (As := [_, _, _]) rfl hS lX7_78 dX7_copy_50 rfl rfl (Nat.le_of_ble_eq_true rfl) (c_X5_faultOfCells hS hk) ?_
  rintro _ _ ⟨rfl, hq⟩
  obtain rfl := hq.symm
  refine x_pushI ?_
  rw [arr_setF, fCells_0 hsz hn hi]
  refine x_putI (pc := 53) hS fX7_64 dX7_copy_53 rfl rfl rfl rfl (fun hS => ?_)
  rw [setF_setF]
  have hS := hS0.stF (a := 0) (k := 8) rfl rfl 0
  refine x_aload_n (pc := 56) (i := 0) dX7_copy_56 rfl rfl ?_
  refine x_getI (pc := 57) hS fX7_64 dX7_copy_57 rfl rfl ?_
  rw [fld_setF hS0 rfl rfl]
  refine x_if_ne (pc := 60) (tgt := 79) dX7_copy_60 (by decide) (fun h60 => absurd h60 (by exact not_not_intro rfl)) (fun h60 => ?_)
  refine x_aload_n (pc := 63) (i := 0) dX7_copy_63 rfl rfl ?_
  refine x_aload_n (pc := 64) (i := 0) dX7_copy_64 rfl rfl ?_
  refine x_getR (pc := 65) hS fX7_12 dX7_copy_65 rfl rfl ?_
  refine x_iload_n (pc := 68) (i := 3) dX7_copy_68 rfl rfl ?_
  refine x_iload (pc := 69) dX7_copy_69 rfl ?_
  refine x_iload (pc := 71) dX7_copy_71 rfl ?_
  refine x_vs (pc := 73) (As := [_, _, _]) rfl hS lX7_78 dX7_copy_73 rfl rfl (Nat.le_of_ble_eq_true rfl) (c_X5_faultOfCells hS ho) ?_
  rintro _ _ ⟨rfl, hq⟩
  obtain rfl := hq.symm
  refine x_pushI ?_
  rw [arr_setF, fCells_0 hsz' hn' hj]
  refine x_putI (pc := 76) hS fX7_64 dX7_copy_76 rfl rfl rfl rfl (fun hS => ?_)
  rw [setF_setF]
  have hS := hS0.stF (a := 0) (k := 8) rfl rfl 0
  refine x_aload_n (pc := 79) (i := 0) dX7_copy_79 rfl rfl ?_
  refine x_getI (pc := 80) hS fX7_64 dX7_copy_80 rfl rfl ?_
  rw [fld_setF hS0 rfl rfl]
  refine x_if_eq (pc := 83) (tgt := 94) dX7_copy_83 (by decide) (fun h83 => ?_) (fun h83 => absurd h83 (by exact not_not_intro rfl))
  refine x_aload_n (pc := 94) (i := 0) dX7_copy_94 rfl rfl ?_
  refine x_getR (pc := 95) hS fX7_12 dX7_copy_95 rfl rfl ?_
  refine x_iload_n (pc := 98) (i := 1) dX7_copy_98 rfl rfl ?_
  refine x_iload_n (pc := 99) (i := 2) dX7_copy_99 rfl rfl ?_
  refine x_iload_n (pc := 100) (i := 3) dX7_copy_100 rfl rfl ?_
  refine x_iload (pc := 101) dX7_copy_101 rfl ?_
  refine x_iload (pc := 103) dX7_copy_103 rfl ?_
  refine x_vs (pc := 105) (As := [_, _, _, _, _]) rfl hS lX7_254 dX7_copy_105 rfl rfl (Nat.le_of_ble_eq_true rfl) (c_X5_move hS hk ho (by rw [arr_setF]; exact hsz) hn hi (by rw [arr_setF]; exact hsz') hn' hj) ?_
  rintro _ _ ⟨rfl, hq⟩
  obtain rfl := hq.symm
  refine x_pushV ?_
  refine x_iload (pc := 108) dX7_copy_108 rfl ?_
  refine x_ri (pc := 110) dX7_copy_110 rfl rfl ?_
  exact ⟨rfl, by rw [arr_setF]⟩

