-- how many; who may lodge
set_option maxRecDepth 20000 in
theorem c_bitCount {d : Nat} {w : mW} {s : Nat} (hs : s < 32) : mC d kJ6_bitCount_0f7a4 [.int (nI s)] w (fun r w' => r = some (.int (nI (popc s))) ∧ w' = w) := by
  refine mC.of (L := [_]) okJ6_bitCount_0f7a4 0 rfl rfl ?_
  refine x_iload_n (pc := 0) (i := 0) dJ6_bitCount_0f7a4_0 rfl rfl ?_
  refine x_iload_n (pc := 1) (i := 0) dJ6_bitCount_0f7a4_1 rfl rfl ?_
  refine x_iconst (pc := 2) (v := 1) dJ6_bitCount_0f7a4_2 (by decide) ?_
  refine x_iushr (pc := 3) dJ6_bitCount_0f7a4_3 rfl ?_
  refine x_ldcw (pc := 4) dJ6_bitCount_0f7a4_4 qJ6_265 ?_
  refine x_iand (pc := 7) dJ6_bitCount_0f7a4_7 ?_
  refine x_isub (pc := 8) dJ6_bitCount_0f7a4_8 ?_
  refine x_istore_n (pc := 9) (i := 0) (L' := [_]) dJ6_bitCount_0f7a4_9 rfl (by decide) rfl ?_
  refine x_iload_n (pc := 10) (i := 0) dJ6_bitCount_0f7a4_10 rfl rfl ?_
  refine x_ldcw (pc := 11) dJ6_bitCount_0f7a4_11 qJ6_266 ?_
  refine x_iand (pc := 14) dJ6_bitCount_0f7a4_14 ?_
  refine x_iload_n (pc := 15) (i := 0) dJ6_bitCount_0f7a4_15 rfl rfl ?_
  refine x_iconst (pc := 16) (v := 2) dJ6_bitCount_0f7a4_16 (by decide) ?_
  refine x_iushr (pc := 17) dJ6_bitCount_0f7a4_17 rfl ?_
  refine x_ldcw (pc := 18) dJ6_bitCount_0f7a4_18 qJ6_266 ?_
  refine x_iand (pc := 21) dJ6_bitCount_0f7a4_21 ?_
  refine x_iadd (pc := 22) dJ6_bitCount_0f7a4_22 ?_
  refine x_istore_n (pc := 23) (i := 0) (L' := [_]) dJ6_bitCount_0f7a4_23 rfl (by decide) rfl ?_
  refine x_iload_n (pc := 24) (i := 0) dJ6_bitCount_0f7a4_24 rfl rfl ?_
  refine x_iload_n (pc := 25) (i := 0) dJ6_bitCount_0f7a4_25 rfl rfl ?_
  refine x_iconst (pc := 26) (v := 4) dJ6_bitCount_0f7a4_26 (by decide) ?_
  refine x_iushr (pc := 27) dJ6_bitCount_0f7a4_27 rfl ?_
  refine x_iadd (pc := 28) dJ6_bitCount_0f7a4_28 ?_
  refine x_ldcw (pc := 29) dJ6_bitCount_0f7a4_29 qJ6_267 ?_
  refine x_iand (pc := 32) dJ6_bitCount_0f7a4_32 ?_
  refine x_istore_n (pc := 33) (i := 0) (L' := [_]) dJ6_bitCount_0f7a4_33 rfl (by decide) rfl ?_
  refine x_iload_n (pc := 34) (i := 0) dJ6_bitCount_0f7a4_34 rfl rfl ?_
  refine x_iload_n (pc := 35) (i := 0) dJ6_bitCount_0f7a4_35 rfl rfl ?_
  refine x_bipush (pc := 36) (v := 8) dJ6_bitCount_0f7a4_36 (by decide) ?_
  refine x_iushr (pc := 38) dJ6_bitCount_0f7a4_38 rfl ?_
  refine x_iadd (pc := 39) dJ6_bitCount_0f7a4_39 ?_
  refine x_istore_n (pc := 40) (i := 0) (L' := [_]) dJ6_bitCount_0f7a4_40 rfl (by decide) rfl ?_
  refine x_iload_n (pc := 41) (i := 0) dJ6_bitCount_0f7a4_41 rfl rfl ?_
  refine x_iload_n (pc := 42) (i := 0) dJ6_bitCount_0f7a4_42 rfl rfl ?_
  refine x_bipush (pc := 43) (v := 16) dJ6_bitCount_0f7a4_43 (by decide) ?_
  refine x_iushr (pc := 45) dJ6_bitCount_0f7a4_45 rfl ?_
  refine x_iadd (pc := 46) dJ6_bitCount_0f7a4_46 ?_
  refine x_istore_n (pc := 47) (i := 0) (L' := [_]) dJ6_bitCount_0f7a4_47 rfl (by decide) rfl ?_
  refine x_iload_n (pc := 48) (i := 0) dJ6_bitCount_0f7a4_48 rfl rfl ?_
  refine x_bipush (pc := 49) (v := 63) dJ6_bitCount_0f7a4_49 (by decide) ?_
  refine x_iand (pc := 51) dJ6_bitCount_0f7a4_51 ?_
  refine x_ri (pc := 52) dJ6_bitCount_0f7a4_52 rfl rfl ?_
  exact ⟨by congr 2; revert s; decide +kernel, rfl⟩
theorem sz_and : ∀ t, t < 32 → nI t &&& 1 = nI (t % 2) := by decide +kernel
theorem sz_shr : ∀ t, t < 32 → nI t >>> ((1 : Int32) &&& 31) = nI (t / 2) := by decide +kernel
theorem sz_pop : ∀ t, t < 32 → popc t = t % 2 + popc (t / 2) := by decide +kernel
theorem c_X8_size {d : Nat} {w : mW} {s : Nat} (hs : s < 32) : mC d kX8_size [.int (nI s)] w (fun r w' => r = some (.int (nI (popc s))) ∧ w' = w) := by
  have lp : ∀ (n t c : Nat), t < n → t < 32 → c + popc t = popc s → mJ mX0 d kX8_size (fun r w' => r = some (.int (nI (popc s))) ∧ w' = w) 4 [.int (nI s), .int (nI c), .int (nI t)] [] w := by
    intro n
    induction n with
    | zero => intro t c h; omega
    | succ n ih =>
      intro t c htn ht hc
      have tk : (nI t).toInt = (t : Int) := nI_toInt (by omega)
      refine x_iload_n (pc := 4) (i := 2) dX8_size_4 rfl rfl ?_
      refine x_if_le (pc := 5) (tgt := 21) dX8_size_5 (by decide) (fun h5 => ?_) (fun h5 => ?_)
      · refine x_iload_n (pc := 21) (i := 1) dX8_size_21 rfl rfl ?_
        refine x_ri (pc := 22) dX8_size_22 rfl rfl ?_
        have ht0 : t = 0 := by (try simp only [b2_e0, b2_n0, Decidable.not_not] at *) <;> (try simp only [i_lt, i_le, i_eq, not_and, not_or, ne_eq, il_0, il_1, il_2, il_3, il_4, il_5, il_6, il_7, il_8, il_9, il_10, il_14, il_15, il_19, il_20, il_24, il_30, il_31, il_44, il_48, il_49, il_52, il_57, il_59, il_60, il_70, il_99, il_100, il_103, il_108, il_114, il_m1, il_m2, il_m3, il_m4, il_m9, il_m10, il_m100] at *) <;> omega
        subst ht0
        exact ⟨by rw [← hc]; simp [popc], rfl⟩
      · refine x_iload_n (pc := 8) (i := 1) dX8_size_8 rfl rfl ?_
        refine x_iload_n (pc := 9) (i := 2) dX8_size_9 rfl rfl ?_
        refine x_iconst (pc := 10) (v := 1) dX8_size_10 (by decide) ?_
        refine x_iand (pc := 11) dX8_size_11 ?_
        rw [sz_and t ht]
        refine x_iadd (pc := 12) dX8_size_12 ?_
        rw [nI_add]
        refine x_istore_n (pc := 13) (i := 1) (L' := [_, _, _]) dX8_size_13 rfl (by decide) rfl ?_
        refine x_iload_n (pc := 14) (i := 2) dX8_size_14 rfl rfl ?_
        refine x_iconst (pc := 15) (v := 1) dX8_size_15 (by decide) ?_
        refine x_ishr (pc := 16) dX8_size_16 ?_
        rw [sz_shr t ht]
        refine x_istore_n (pc := 17) (i := 2) (L' := [_, _, _]) dX8_size_17 rfl (by decide) rfl ?_
        refine x_goto (pc := 18) (tgt := 4) dX8_size_18 (by decide) ?_
        have ht0 : t ≠ 0 := fun q => h5 (by rw [q]; decide)
        have hp := sz_pop t ht
        exact ih (t / 2) (c + t % 2) (by omega) (by omega) (by omega)
  refine mC.of (L := [_, _, _]) okX8_size 2 rfl rfl ?_
  refine x_iconst (pc := 0) (v := 0) dX8_size_0 (by decide) ?_
  refine x_istore_n (pc := 1) (i := 1) (L' := [_, _, _]) dX8_size_1 rfl (by decide) rfl ?_
  refine x_iload_n (pc := 2) (i := 0) dX8_size_2 rfl rfl ?_
  refine x_istore_n (pc := 3) (i := 2) (L' := [_, _, _]) dX8_size_3 rfl (by decide) rfl ?_
  exact lp (s + 1) s 0 (by omega) hs (by omega)
-- may a walker go to a barrow
abbrev suitE (me pl re pe si : Nat → Int32) (w b : Nat) : Prop := farE (pl w) (si b) ≤ re w ∧ pe b ≤ me w
theorem c_X0_suits_7 {d : Nat} {w : mW} {v b : Int32} {nb nw : Nat} (hS : Shape w) (tb : (fld w 7 0).toInt = (nb : Int)) (hnb : nb ≤ 5) (tw : (fld w 7 1).toInt = (nw : Int)) (hnw : nw ≤ 5) : mC (d + 2) kX0_suits [.ref 7, .int v, .int b] w (fun r w' => r = some (.int (b2 ((0 ≤ v ∧ v < fld w 7 1) ∧ (0 ≤ b ∧ b < fld w 7 0) ∧ suitE (arr w 12) (arr w 13) (arr w 14) (arr w 10) (arr w 11) v.toNatClampNeg b.toNatClampNeg))) ∧ w' = w) := by
  refine mC.of (L := [_, _, _]) okX0_suits 0 rfl rfl ?_
  refine x_aload_n (pc := 0) (i := 0) dX0_suits_0 rfl rfl ?_
  refine x_iload_n (pc := 1) (i := 1) dX0_suits_1 rfl rfl ?_
  refine x_vs (pc := 2) (As := [_]) rfl hS lX0_57 dX0_suits_2 rfl rfl (by decide) (c_X0_hasWalker_7 hS) ?_
  rintro _ _ ⟨rfl, hq⟩
  obtain rfl := hq.symm
  refine x_pushI ?_
  refine x_if_eq (pc := 5) (tgt := 16) dX0_suits_5 (by decide) (fun h5 => ?_) (fun h5 => ?_)
  · refine x_iconst (pc := 16) (v := 0) dX0_suits_16 (by decide) ?_
    refine x_ri (pc := 17) dX0_suits_17 rfl rfl ?_
    exact ⟨by unfold b2; simp only [suitE]; split <;> first | rfl | contradiction | (exfalso; (try simp only [b2_e0, b2_n0, Decidable.not_not] at *) <;> (try simp only [i_lt, i_le, i_eq, not_and, not_or, ne_eq, il_0, il_1, il_2, il_3, il_4, il_5, il_6, il_7, il_8, il_9, il_10, il_14, il_15, il_19, il_20, il_24, il_30, il_31, il_44, il_48, il_49, il_52, il_57, il_59, il_60, il_70, il_99, il_100, il_103, il_108, il_114, il_m1, il_m2, il_m3, il_m4, il_m9, il_m10, il_m100] at *) <;> omega), rfl⟩
  · refine x_aload_n (pc := 8) (i := 0) dX0_suits_8 rfl rfl ?_
    refine x_iload_n (pc := 9) (i := 2) dX0_suits_9 rfl rfl ?_
    refine x_vs (pc := 10) (As := [_]) rfl hS lX0_49 dX0_suits_10 rfl rfl (by decide) (c_X0_hasBarrow_7 hS) ?_
    rintro _ _ ⟨rfl, hq⟩
    obtain rfl := hq.symm
    refine x_pushI ?_
    refine x_if_ne (pc := 13) (tgt := 18) dX0_suits_13 (by decide) (fun h13 => ?_) (fun h13 => ?_)
    · refine x_aload_n (pc := 18) (i := 0) dX0_suits_18 rfl rfl ?_
      refine x_getR (pc := 19) hS fX0_27 dX0_suits_19 rfl rfl ?_
      refine x_iload_n (pc := 22) (i := 1) dX0_suits_22 rfl rfl ?_
      refine x_ald (pc := 23) hS dX0_suits_23 rfl (by rw [vp_in_iff]; (try simp only [b2_e0, b2_n0, Decidable.not_not] at *) <;> (try simp only [i_lt, i_le, i_eq, not_and, not_or, ne_eq, il_0, il_1, il_2, il_3, il_4, il_5, il_6, il_7, il_8, il_9, il_10, il_14, il_15, il_19, il_20, il_24, il_30, il_31, il_44, il_48, il_49, il_52, il_57, il_59, il_60, il_70, il_99, il_100, il_103, il_108, il_114, il_m1, il_m2, il_m3, il_m4, il_m9, il_m10, il_m100] at *) <;> omega) ?_
      refine x_aload_n (pc := 24) (i := 0) dX0_suits_24 rfl rfl ?_
      refine x_getR (pc := 25) hS fX0_21 dX0_suits_25 rfl rfl ?_
      refine x_iload_n (pc := 28) (i := 2) dX0_suits_28 rfl rfl ?_
      refine x_ald (pc := 29) hS dX0_suits_29 rfl (by rw [vp_in_iff]; (try simp only [b2_e0, b2_n0, Decidable.not_not] at *) <;> (try simp only [i_lt, i_le, i_eq, not_and, not_or, ne_eq, il_0, il_1, il_2, il_3, il_4, il_5, il_6, il_7, il_8, il_9, il_10, il_14, il_15, il_19, il_20, il_24, il_30, il_31, il_44, il_48, il_49, il_52, il_57, il_59, il_60, il_70, il_99, il_100, il_103, il_108, il_114, il_m1, il_m2, il_m3, il_m4, il_m9, il_m10, il_m100] at *) <;> omega) ?_
      refine x_aload_n (pc := 30) (i := 0) dX0_suits_30 rfl rfl ?_
      refine x_getR (pc := 31) hS fX0_30 dX0_suits_31 rfl rfl ?_
      refine x_iload_n (pc := 34) (i := 1) dX0_suits_34 rfl rfl ?_
      refine x_ald (pc := 35) hS dX0_suits_35 rfl (by rw [vp_in_iff]; (try simp only [b2_e0, b2_n0, Decidable.not_not] at *) <;> (try simp only [i_lt, i_le, i_eq, not_and, not_or, ne_eq, il_0, il_1, il_2, il_3, il_4, il_5, il_6, il_7, il_8, il_9, il_10, il_14, il_15, il_19, il_20, il_24, il_30, il_31, il_44, il_48, il_49, il_52, il_57, il_59, il_60, il_70, il_99, il_100, il_103, il_108, il_114, il_m1, il_m2, il_m3, il_m4, il_m9, il_m10, il_m100] at *) <;> omega) ?_
      refine x_ss (pc := 36) (As := [_, _, _]) rfl lX0_60 dX0_suits_36 rfl (by decide) c_X7_isNear ?_
      rintro _ _ ⟨rfl, hq⟩
      obtain rfl := hq.symm
      refine x_pushI ?_
      refine x_if_eq (pc := 39) (tgt := 61) dX0_suits_39 (by decide) (fun h39 => ?_) (fun h39 => ?_)
      · refine x_iconst (pc := 61) (v := 0) dX0_suits_61 (by decide) ?_
        refine x_ri (pc := 62) dX0_suits_62 rfl rfl ?_
        exact ⟨by unfold b2; simp only [suitE]; split <;> first | rfl | contradiction | (exfalso; (try simp only [b2_e0, b2_n0, Decidable.not_not] at *) <;> (try simp only [i_lt, i_le, i_eq, not_and, not_or, ne_eq, il_0, il_1, il_2, il_3, il_4, il_5, il_6, il_7, il_8, il_9, il_10, il_14, il_15, il_19, il_20, il_24, il_30, il_31, il_44, il_48, il_49, il_52, il_57, il_59, il_60, il_70, il_99, il_100, il_103, il_108, il_114, il_m1, il_m2, il_m3, il_m4, il_m9, il_m10, il_m100] at *) <;> omega), rfl⟩
      · refine x_aload_n (pc := 42) (i := 0) dX0_suits_42 rfl rfl ?_
        refine x_getR (pc := 43) hS fX0_18 dX0_suits_43 rfl rfl ?_
        refine x_iload_n (pc := 46) (i := 2) dX0_suits_46 rfl rfl ?_
        refine x_ald (pc := 47) hS dX0_suits_47 rfl (by rw [vp_in_iff]; (try simp only [b2_e0, b2_n0, Decidable.not_not] at *) <;> (try simp only [i_lt, i_le, i_eq, not_and, not_or, ne_eq, il_0, il_1, il_2, il_3, il_4, il_5, il_6, il_7, il_8, il_9, il_10, il_14, il_15, il_19, il_20, il_24, il_30, il_31, il_44, il_48, il_49, il_52, il_57, il_59, il_60, il_70, il_99, il_100, il_103, il_108, il_114, il_m1, il_m2, il_m3, il_m4, il_m9, il_m10, il_m100] at *) <;> omega) ?_
        refine x_aload_n (pc := 48) (i := 0) dX0_suits_48 rfl rfl ?_
        refine x_getR (pc := 49) hS fX0_24 dX0_suits_49 rfl rfl ?_
        refine x_iload_n (pc := 52) (i := 1) dX0_suits_52 rfl rfl ?_
        refine x_ald (pc := 53) hS dX0_suits_53 rfl (by rw [vp_in_iff]; (try simp only [b2_e0, b2_n0, Decidable.not_not] at *) <;> (try simp only [i_lt, i_le, i_eq, not_and, not_or, ne_eq, il_0, il_1, il_2, il_3, il_4, il_5, il_6, il_7, il_8, il_9, il_10, il_14, il_15, il_19, il_20, il_24, il_30, il_31, il_44, il_48, il_49, il_52, il_57, il_59, il_60, il_70, il_99, il_100, il_103, il_108, il_114, il_m1, il_m2, il_m3, il_m4, il_m9, il_m10, il_m100] at *) <;> omega) ?_
        refine x_icmp_gt (pc := 54) (tgt := 61) dX0_suits_54 (by decide) (fun h54 => ?_) (fun h54 => ?_)
        · refine x_iconst (pc := 61) (v := 0) dX0_suits_61 (by decide) ?_
          refine x_ri (pc := 62) dX0_suits_62 rfl rfl ?_
          exact ⟨by unfold b2; simp only [suitE]; split <;> first | rfl | contradiction | (exfalso; (try simp only [b2_e0, b2_n0, Decidable.not_not] at *) <;> (try simp only [i_lt, i_le, i_eq, not_and, not_or, ne_eq, il_0, il_1, il_2, il_3, il_4, il_5, il_6, il_7, il_8, il_9, il_10, il_14, il_15, il_19, il_20, il_24, il_30, il_31, il_44, il_48, il_49, il_52, il_57, il_59, il_60, il_70, il_99, il_100, il_103, il_108, il_114, il_m1, il_m2, il_m3, il_m4, il_m9, il_m10, il_m100] at *) <;> omega), rfl⟩
        · refine x_iconst (pc := 57) (v := 1) dX0_suits_57 (by decide) ?_
          refine x_goto (pc := 58) (tgt := 62) dX0_suits_58 (by decide) ?_
          refine x_ri (pc := 62) dX0_suits_62 rfl rfl ?_
          exact ⟨by unfold b2; simp only [suitE]; split <;> first | rfl | contradiction | (exfalso; (try simp only [b2_e0, b2_n0, Decidable.not_not] at *) <;> (try simp only [i_lt, i_le, i_eq, not_and, not_or, ne_eq, il_0, il_1, il_2, il_3, il_4, il_5, il_6, il_7, il_8, il_9, il_10, il_14, il_15, il_19, il_20, il_24, il_30, il_31, il_44, il_48, il_49, il_52, il_57, il_59, il_60, il_70, il_99, il_100, il_103, il_108, il_114, il_m1, il_m2, il_m3, il_m4, il_m9, il_m10, il_m100] at *) <;> omega), rfl⟩
    · refine x_iconst (pc := 16) (v := 0) dX0_suits_16 (by decide) ?_
      refine x_ri (pc := 17) dX0_suits_17 rfl rfl ?_
      exact ⟨by unfold b2; simp only [suitE]; split <;> first | rfl | contradiction | (exfalso; (try simp only [b2_e0, b2_n0, Decidable.not_not] at *) <;> (try simp only [i_lt, i_le, i_eq, not_and, not_or, ne_eq, il_0, il_1, il_2, il_3, il_4, il_5, il_6, il_7, il_8, il_9, il_10, il_14, il_15, il_19, il_20, il_24, il_30, il_31, il_44, il_48, il_49, il_52, il_57, il_59, il_60, il_70, il_99, il_100, il_103, il_108, il_114, il_m1, il_m2, il_m3, il_m4, il_m9, il_m10, il_m100] at *) <;> omega), rfl⟩
theorem c_X0_goOut_7 {d : Nat} {w : mW} {v : Int32} {nb nw : Nat} (hS : Shape w) (tb : (fld w 7 0).toInt = (nb : Int)) (hnb : nb ≤ 5) (tw : (fld w 7 1).toInt = (nw : Int)) (hnw : nw ≤ 5) : mC (d + 1) kX0_goOut [.ref 7, .int v] w (fun r w' => r = some (.int (b2 ((0 ≤ v ∧ v < fld w 7 1) ∧ 0 ≤ arr w 15 v.toNatClampNeg ∧ arr w 15 v.toNatClampNeg < fld w 7 0))) ∧ w' = if ((0 ≤ v ∧ v < fld w 7 1) ∧ 0 ≤ arr w 15 v.toNatClampNeg ∧ arr w 15 v.toNatClampNeg < fld w 7 0) then setA w 15 (upd (arr w 15) v.toNatClampNeg (-9)) else w) := by
  refine mC.of (L := [_, _]) okX0_goOut 0 rfl rfl ?_
  refine x_aload_n (pc := 0) (i := 0) dX0_goOut_0 rfl rfl ?_
  refine x_iload_n (pc := 1) (i := 1) dX0_goOut_1 rfl rfl ?_
  refine x_vs (pc := 2) (As := [_]) rfl hS lX0_57 dX0_goOut_2 rfl rfl (by decide) (c_X0_hasWalker_7 hS) ?_
  rintro _ _ ⟨rfl, hq⟩
  obtain rfl := hq.symm
  refine x_pushI ?_
  refine x_if_eq (pc := 5) (tgt := 21) dX0_goOut_5 (by decide) (fun h5 => ?_) (fun h5 => ?_)
  · refine x_iconst (pc := 21) (v := 0) dX0_goOut_21 (by decide) ?_
    refine x_ri (pc := 22) dX0_goOut_22 rfl rfl ?_
    rw [if_neg (by (try simp only [b2_e0, b2_n0, Decidable.not_not] at *) <;> (try simp only [i_lt, i_le, i_eq, not_and, not_or, ne_eq, il_0, il_1, il_2, il_3, il_4, il_5, il_6, il_7, il_8, il_9, il_10, il_14, il_15, il_19, il_20, il_24, il_30, il_31, il_44, il_48, il_49, il_52, il_57, il_59, il_60, il_70, il_99, il_100, il_103, il_108, il_114, il_m1, il_m2, il_m3, il_m4, il_m9, il_m10, il_m100] at *) <;> omega), b2_f (by (try simp only [b2_e0, b2_n0, Decidable.not_not] at *) <;> (try simp only [i_lt, i_le, i_eq, not_and, not_or, ne_eq, il_0, il_1, il_2, il_3, il_4, il_5, il_6, il_7, il_8, il_9, il_10, il_14, il_15, il_19, il_20, il_24, il_30, il_31, il_44, il_48, il_49, il_52, il_57, il_59, il_60, il_70, il_99, il_100, il_103, il_108, il_114, il_m1, il_m2, il_m3, il_m4, il_m9, il_m10, il_m100] at *) <;> omega)]; exact ⟨rfl, rfl⟩
  · refine x_aload_n (pc := 8) (i := 0) dX0_goOut_8 rfl rfl ?_
    refine x_aload_n (pc := 9) (i := 0) dX0_goOut_9 rfl rfl ?_
    refine x_getR (pc := 10) hS fX0_33 dX0_goOut_10 rfl rfl ?_
    refine x_iload_n (pc := 13) (i := 1) dX0_goOut_13 rfl rfl ?_
    refine x_ald (pc := 14) hS dX0_goOut_14 rfl (by rw [vp_in_iff]; (try simp only [b2_e0, b2_n0, Decidable.not_not] at *) <;> (try simp only [i_lt, i_le, i_eq, not_and, not_or, ne_eq, il_0, il_1, il_2, il_3, il_4, il_5, il_6, il_7, il_8, il_9, il_10, il_14, il_15, il_19, il_20, il_24, il_30, il_31, il_44, il_48, il_49, il_52, il_57, il_59, il_60, il_70, il_99, il_100, il_103, il_108, il_114, il_m1, il_m2, il_m3, il_m4, il_m9, il_m10, il_m100] at *) <;> omega) ?_
    refine x_vs (pc := 15) (As := [_]) rfl hS lX0_49 dX0_goOut_15 rfl rfl (by decide) (c_X0_hasBarrow_7 hS) ?_
    rintro _ _ ⟨rfl, hq⟩
    obtain rfl := hq.symm
    refine x_pushI ?_
    refine x_if_ne (pc := 18) (tgt := 23) dX0_goOut_18 (by decide) (fun h18 => ?_) (fun h18 => ?_)
    · refine x_aload_n (pc := 23) (i := 0) dX0_goOut_23 rfl rfl ?_
      refine x_getR (pc := 24) hS fX0_33 dX0_goOut_24 rfl rfl ?_
      refine x_iload_n (pc := 27) (i := 1) dX0_goOut_27 rfl rfl ?_
      refine x_bipush (pc := 28) (v := (-9)) dX0_goOut_28 (by decide) ?_
      refine x_ast (pc := 30) hS dX0_goOut_30 rfl (by rw [vp_in_iff]; (try simp only [b2_e0, b2_n0, Decidable.not_not] at *) <;> (try simp only [i_lt, i_le, i_eq, not_and, not_or, ne_eq, il_0, il_1, il_2, il_3, il_4, il_5, il_6, il_7, il_8, il_9, il_10, il_14, il_15, il_19, il_20, il_24, il_30, il_31, il_44, il_48, il_49, il_52, il_57, il_59, il_60, il_70, il_99, il_100, il_103, il_108, il_114, il_m1, il_m2, il_m3, il_m4, il_m9, il_m10, il_m100] at *) <;> omega) (fun hS => ?_)
      refine x_iconst (pc := 31) (v := 1) dX0_goOut_31 (by decide) ?_
      refine x_ri (pc := 32) dX0_goOut_32 rfl rfl ?_
      rw [if_pos (by (try simp only [b2_e0, b2_n0, Decidable.not_not] at *) <;> (try simp only [i_lt, i_le, i_eq, not_and, not_or, ne_eq, il_0, il_1, il_2, il_3, il_4, il_5, il_6, il_7, il_8, il_9, il_10, il_14, il_15, il_19, il_20, il_24, il_30, il_31, il_44, il_48, il_49, il_52, il_57, il_59, il_60, il_70, il_99, il_100, il_103, il_108, il_114, il_m1, il_m2, il_m3, il_m4, il_m9, il_m10, il_m100] at *) <;> omega), b2_t (by (try simp only [b2_e0, b2_n0, Decidable.not_not] at *) <;> (try simp only [i_lt, i_le, i_eq, not_and, not_or, ne_eq, il_0, il_1, il_2, il_3, il_4, il_5, il_6, il_7, il_8, il_9, il_10, il_14, il_15, il_19, il_20, il_24, il_30, il_31, il_44, il_48, il_49, il_52, il_57, il_59, il_60, il_70, il_99, il_100, il_103, il_108, il_114, il_m1, il_m2, il_m3, il_m4, il_m9, il_m10, il_m100] at *) <;> omega)]; exact ⟨rfl, rfl⟩
    · refine x_iconst (pc := 21) (v := 0) dX0_goOut_21 (by decide) ?_
      refine x_ri (pc := 22) dX0_goOut_22 rfl rfl ?_
      rw [if_neg (by (try simp only [b2_e0, b2_n0, Decidable.not_not] at *) <;> (try simp only [i_lt, i_le, i_eq, not_and, not_or, ne_eq, il_0, il_1, il_2, il_3, il_4, il_5, il_6, il_7, il_8, il_9, il_10, il_14, il_15, il_19, il_20, il_24, il_30, il_31, il_44, il_48, il_49, il_52, il_57, il_59, il_60, il_70, il_99, il_100, il_103, il_108, il_114, il_m1, il_m2, il_m3, il_m4, il_m9, il_m10, il_m100] at *) <;> omega), b2_f (by (try simp only [b2_e0, b2_n0, Decidable.not_not] at *) <;> (try simp only [i_lt, i_le, i_eq, not_and, not_or, ne_eq, il_0, il_1, il_2, il_3, il_4, il_5, il_6, il_7, il_8, il_9, il_10, il_14, il_15, il_19, il_20, il_24, il_30, il_31, il_44, il_48, il_49, il_52, il_57, il_59, il_60, il_70, il_99, il_100, il_103, il_108, il_114, il_m1, il_m2, il_m3, il_m4, il_m9, il_m10, il_m100] at *) <;> omega)]; exact ⟨rfl, rfl⟩
theorem c_X0_suits_18 {d : Nat} {w : mW} {v b : Int32} {nb nw : Nat} (hS : Shape w) (tb : (fld w 18 0).toInt = (nb : Int)) (hnb : nb ≤ 5) (tw : (fld w 18 1).toInt = (nw : Int)) (hnw : nw ≤ 5) : mC (d + 2) kX0_suits [.ref 18, .int v, .int b] w (fun r w' => r = some (.int (b2 ((0 ≤ v ∧ v < fld w 18 1) ∧ (0 ≤ b ∧ b < fld w 18 0) ∧ suitE (arr w 23) (arr w 24) (arr w 25) (arr w 21) (arr w 22) v.toNatClampNeg b.toNatClampNeg))) ∧ w' = w) := by
  refine mC.of (L := [_, _, _]) okX0_suits 0 rfl rfl ?_
  refine x_aload_n (pc := 0) (i := 0) dX0_suits_0 rfl rfl ?_
  refine x_iload_n (pc := 1) (i := 1) dX0_suits_1 rfl rfl ?_
  refine x_vs (pc := 2) (As := [_]) rfl hS lX0_57 dX0_suits_2 rfl rfl (by decide) (c_X0_hasWalker_18 hS) ?_
  rintro _ _ ⟨rfl, hq⟩
  obtain rfl := hq.symm
  refine x_pushI ?_
  refine x_if_eq (pc := 5) (tgt := 16) dX0_suits_5 (by decide) (fun h5 => ?_) (fun h5 => ?_)
  · refine x_iconst (pc := 16) (v := 0) dX0_suits_16 (by decide) ?_
    refine x_ri (pc := 17) dX0_suits_17 rfl rfl ?_
    exact ⟨by unfold b2; simp only [suitE]; split <;> first | rfl | contradiction | (exfalso; (try simp only [b2_e0, b2_n0, Decidable.not_not] at *) <;> (try simp only [i_lt, i_le, i_eq, not_and, not_or, ne_eq, il_0, il_1, il_2, il_3, il_4, il_5, il_6, il_7, il_8, il_9, il_10, il_14, il_15, il_19, il_20, il_24, il_30, il_31, il_44, il_48, il_49, il_52, il_57, il_59, il_60, il_70, il_99, il_100, il_103, il_108, il_114, il_m1, il_m2, il_m3, il_m4, il_m9, il_m10, il_m100] at *) <;> omega), rfl⟩
  · refine x_aload_n (pc := 8) (i := 0) dX0_suits_8 rfl rfl ?_
    refine x_iload_n (pc := 9) (i := 2) dX0_suits_9 rfl rfl ?_
    refine x_vs (pc := 10) (As := [_]) rfl hS lX0_49 dX0_suits_10 rfl rfl (by decide) (c_X0_hasBarrow_18 hS) ?_
    rintro _ _ ⟨rfl, hq⟩
    obtain rfl := hq.symm
    refine x_pushI ?_
    refine x_if_ne (pc := 13) (tgt := 18) dX0_suits_13 (by decide) (fun h13 => ?_) (fun h13 => ?_)
    · refine x_aload_n (pc := 18) (i := 0) dX0_suits_18 rfl rfl ?_
      refine x_getR (pc := 19) hS fX0_27 dX0_suits_19 rfl rfl ?_
      refine x_iload_n (pc := 22) (i := 1) dX0_suits_22 rfl rfl ?_
      refine x_ald (pc := 23) hS dX0_suits_23 rfl (by rw [vp_in_iff]; (try simp only [b2_e0, b2_n0, Decidable.not_not] at *) <;> (try simp only [i_lt, i_le, i_eq, not_and, not_or, ne_eq, il_0, il_1, il_2, il_3, il_4, il_5, il_6, il_7, il_8, il_9, il_10, il_14, il_15, il_19, il_20, il_24, il_30, il_31, il_44, il_48, il_49, il_52, il_57, il_59, il_60, il_70, il_99, il_100, il_103, il_108, il_114, il_m1, il_m2, il_m3, il_m4, il_m9, il_m10, il_m100] at *) <;> omega) ?_
      refine x_aload_n (pc := 24) (i := 0) dX0_suits_24 rfl rfl ?_
      refine x_getR (pc := 25) hS fX0_21 dX0_suits_25 rfl rfl ?_
      refine x_iload_n (pc := 28) (i := 2) dX0_suits_28 rfl rfl ?_
      refine x_ald (pc := 29) hS dX0_suits_29 rfl (by rw [vp_in_iff]; (try simp only [b2_e0, b2_n0, Decidable.not_not] at *) <;> (try simp only [i_lt, i_le, i_eq, not_and, not_or, ne_eq, il_0, il_1, il_2, il_3, il_4, il_5, il_6, il_7, il_8, il_9, il_10, il_14, il_15, il_19, il_20, il_24, il_30, il_31, il_44, il_48, il_49, il_52, il_57, il_59, il_60, il_70, il_99, il_100, il_103, il_108, il_114, il_m1, il_m2, il_m3, il_m4, il_m9, il_m10, il_m100] at *) <;> omega) ?_
      refine x_aload_n (pc := 30) (i := 0) dX0_suits_30 rfl rfl ?_
      refine x_getR (pc := 31) hS fX0_30 dX0_suits_31 rfl rfl ?_
      refine x_iload_n (pc := 34) (i := 1) dX0_suits_34 rfl rfl ?_
      refine x_ald (pc := 35) hS dX0_suits_35 rfl (by rw [vp_in_iff]; (try simp only [b2_e0, b2_n0, Decidable.not_not] at *) <;> (try simp only [i_lt, i_le, i_eq, not_and, not_or, ne_eq, il_0, il_1, il_2, il_3, il_4, il_5, il_6, il_7, il_8, il_9, il_10, il_14, il_15, il_19, il_20, il_24, il_30, il_31, il_44, il_48, il_49, il_52, il_57, il_59, il_60, il_70, il_99, il_100, il_103, il_108, il_114, il_m1, il_m2, il_m3, il_m4, il_m9, il_m10, il_m100] at *) <;> omega) ?_
      refine x_ss (pc := 36) (As := [_, _, _]) rfl lX0_60 dX0_suits_36 rfl (by decide) c_X7_isNear ?_
      rintro _ _ ⟨rfl, hq⟩
      obtain rfl := hq.symm
      refine x_pushI ?_
      refine x_if_eq (pc := 39) (tgt := 61) dX0_suits_39 (by decide) (fun h39 => ?_) (fun h39 => ?_)
      · refine x_iconst (pc := 61) (v := 0) dX0_suits_61 (by decide) ?_
        refine x_ri (pc := 62) dX0_suits_62 rfl rfl ?_
        exact ⟨by unfold b2; simp only [suitE]; split <;> first | rfl | contradiction | (exfalso; (try simp only [b2_e0, b2_n0, Decidable.not_not] at *) <;> (try simp only [i_lt, i_le, i_eq, not_and, not_or, ne_eq, il_0, il_1, il_2, il_3, il_4, il_5, il_6, il_7, il_8, il_9, il_10, il_14, il_15, il_19, il_20, il_24, il_30, il_31, il_44, il_48, il_49, il_52, il_57, il_59, il_60, il_70, il_99, il_100, il_103, il_108, il_114, il_m1, il_m2, il_m3, il_m4, il_m9, il_m10, il_m100] at *) <;> omega), rfl⟩
      · refine x_aload_n (pc := 42) (i := 0) dX0_suits_42 rfl rfl ?_
        refine x_getR (pc := 43) hS fX0_18 dX0_suits_43 rfl rfl ?_
        refine x_iload_n (pc := 46) (i := 2) dX0_suits_46 rfl rfl ?_
        refine x_ald (pc := 47) hS dX0_suits_47 rfl (by rw [vp_in_iff]; (try simp only [b2_e0, b2_n0, Decidable.not_not] at *) <;> (try simp only [i_lt, i_le, i_eq, not_and, not_or, ne_eq, il_0, il_1, il_2, il_3, il_4, il_5, il_6, il_7, il_8, il_9, il_10, il_14, il_15, il_19, il_20, il_24, il_30, il_31, il_44, il_48, il_49, il_52, il_57, il_59, il_60, il_70, il_99, il_100, il_103, il_108, il_114, il_m1, il_m2, il_m3, il_m4, il_m9, il_m10, il_m100] at *) <;> omega) ?_
        refine x_aload_n (pc := 48) (i := 0) dX0_suits_48 rfl rfl ?_
        refine x_getR (pc := 49) hS fX0_24 dX0_suits_49 rfl rfl ?_
        refine x_iload_n (pc := 52) (i := 1) dX0_suits_52 rfl rfl ?_
        refine x_ald (pc := 53) hS dX0_suits_53 rfl (by rw [vp_in_iff]; (try simp only [b2_e0, b2_n0, Decidable.not_not] at *) <;> (try simp only [i_lt, i_le, i_eq, not_and, not_or, ne_eq, il_0, il_1, il_2, il_3, il_4, il_5, il_6, il_7, il_8, il_9, il_10, il_14, il_15, il_19, il_20, il_24, il_30, il_31, il_44, il_48, il_49, il_52, il_57, il_59, il_60, il_70, il_99, il_100, il_103, il_108, il_114, il_m1, il_m2, il_m3, il_m4, il_m9, il_m10, il_m100] at *) <;> omega) ?_
        refine x_icmp_gt (pc := 54) (tgt := 61) dX0_suits_54 (by decide) (fun h54 => ?_) (fun h54 => ?_)
        · refine x_iconst (pc := 61) (v := 0) dX0_suits_61 (by decide) ?_
          refine x_ri (pc := 62) dX0_suits_62 rfl rfl ?_
          exact ⟨by unfold b2; simp only [suitE]; split <;> first | rfl | contradiction | (exfalso; (try simp only [b2_e0, b2_n0, Decidable.not_not] at *) <;> (try simp only [i_lt, i_le, i_eq, not_and, not_or, ne_eq, il_0, il_1, il_2, il_3, il_4, il_5, il_6, il_7, il_8, il_9, il_10, il_14, il_15, il_19, il_20, il_24, il_30, il_31, il_44, il_48, il_49, il_52, il_57, il_59, il_60, il_70, il_99, il_100, il_103, il_108, il_114, il_m1, il_m2, il_m3, il_m4, il_m9, il_m10, il_m100] at *) <;> omega), rfl⟩
        · refine x_iconst (pc := 57) (v := 1) dX0_suits_57 (by decide) ?_
          refine x_goto (pc := 58) (tgt := 62) dX0_suits_58 (by decide) ?_
          refine x_ri (pc := 62) dX0_suits_62 rfl rfl ?_
          exact ⟨by unfold b2; simp only [suitE]; split <;> first | rfl | contradiction | (exfalso; (try simp only [b2_e0, b2_n0, Decidable.not_not] at *) <;> (try simp only [i_lt, i_le, i_eq, not_and, not_or, ne_eq, il_0, il_1, il_2, il_3, il_4, il_5, il_6, il_7, il_8, il_9, il_10, il_14, il_15, il_19, il_20, il_24, il_30, il_31, il_44, il_48, il_49, il_52, il_57, il_59, il_60, il_70, il_99, il_100, il_103, il_108, il_114, il_m1, il_m2, il_m3, il_m4, il_m9, il_m10, il_m100] at *) <;> omega), rfl⟩
    · refine x_iconst (pc := 16) (v := 0) dX0_suits_16 (by decide) ?_
      refine x_ri (pc := 17) dX0_suits_17 rfl rfl ?_
      exact ⟨by unfold b2; simp only [suitE]; split <;> first | rfl | contradiction | (exfalso; (try simp only [b2_e0, b2_n0, Decidable.not_not] at *) <;> (try simp only [i_lt, i_le, i_eq, not_and, not_or, ne_eq, il_0, il_1, il_2, il_3, il_4, il_5, il_6, il_7, il_8, il_9, il_10, il_14, il_15, il_19, il_20, il_24, il_30, il_31, il_44, il_48, il_49, il_52, il_57, il_59, il_60, il_70, il_99, il_100, il_103, il_108, il_114, il_m1, il_m2, il_m3, il_m4, il_m9, il_m10, il_m100] at *) <;> omega), rfl⟩
theorem c_X0_goOut_18 {d : Nat} {w : mW} {v : Int32} {nb nw : Nat} (hS : Shape w) (tb : (fld w 18 0).toInt = (nb : Int)) (hnb : nb ≤ 5) (tw : (fld w 18 1).toInt = (nw : Int)) (hnw : nw ≤ 5) : mC (d + 1) kX0_goOut [.ref 18, .int v] w (fun r w' => r = some (.int (b2 ((0 ≤ v ∧ v < fld w 18 1) ∧ 0 ≤ arr w 26 v.toNatClampNeg ∧ arr w 26 v.toNatClampNeg < fld w 18 0))) ∧ w' = if ((0 ≤ v ∧ v < fld w 18 1) ∧ 0 ≤ arr w 26 v.toNatClampNeg ∧ arr w 26 v.toNatClampNeg < fld w 18 0) then setA w 26 (upd (arr w 26) v.toNatClampNeg (-9)) else w) := by
  refine mC.of (L := [_, _]) okX0_goOut 0 rfl rfl ?_
  refine x_aload_n (pc := 0) (i := 0) dX0_goOut_0 rfl rfl ?_
  refine x_iload_n (pc := 1) (i := 1) dX0_goOut_1 rfl rfl ?_
  refine x_vs (pc := 2) (As := [_]) rfl hS lX0_57 dX0_goOut_2 rfl rfl (by decide) (c_X0_hasWalker_18 hS) ?_
  rintro _ _ ⟨rfl, hq⟩
  obtain rfl := hq.symm
  refine x_pushI ?_
  refine x_if_eq (pc := 5) (tgt := 21) dX0_goOut_5 (by decide) (fun h5 => ?_) (fun h5 => ?_)
  · refine x_iconst (pc := 21) (v := 0) dX0_goOut_21 (by decide) ?_
    refine x_ri (pc := 22) dX0_goOut_22 rfl rfl ?_
    rw [if_neg (by (try simp only [b2_e0, b2_n0, Decidable.not_not] at *) <;> (try simp only [i_lt, i_le, i_eq, not_and, not_or, ne_eq, il_0, il_1, il_2, il_3, il_4, il_5, il_6, il_7, il_8, il_9, il_10, il_14, il_15, il_19, il_20, il_24, il_30, il_31, il_44, il_48, il_49, il_52, il_57, il_59, il_60, il_70, il_99, il_100, il_103, il_108, il_114, il_m1, il_m2, il_m3, il_m4, il_m9, il_m10, il_m100] at *) <;> omega), b2_f (by (try simp only [b2_e0, b2_n0, Decidable.not_not] at *) <;> (try simp only [i_lt, i_le, i_eq, not_and, not_or, ne_eq, il_0, il_1, il_2, il_3, il_4, il_5, il_6, il_7, il_8, il_9, il_10, il_14, il_15, il_19, il_20, il_24, il_30, il_31, il_44, il_48, il_49, il_52, il_57, il_59, il_60, il_70, il_99, il_100, il_103, il_108, il_114, il_m1, il_m2, il_m3, il_m4, il_m9, il_m10, il_m100] at *) <;> omega)]; exact ⟨rfl, rfl⟩
  · refine x_aload_n (pc := 8) (i := 0) dX0_goOut_8 rfl rfl ?_
    refine x_aload_n (pc := 9) (i := 0) dX0_goOut_9 rfl rfl ?_
    refine x_getR (pc := 10) hS fX0_33 dX0_goOut_10 rfl rfl ?_
    refine x_iload_n (pc := 13) (i := 1) dX0_goOut_13 rfl rfl ?_
    refine x_ald (pc := 14) hS dX0_goOut_14 rfl (by rw [vp_in_iff]; (try simp only [b2_e0, b2_n0, Decidable.not_not] at *) <;> (try simp only [i_lt, i_le, i_eq, not_and, not_or, ne_eq, il_0, il_1, il_2, il_3, il_4, il_5, il_6, il_7, il_8, il_9, il_10, il_14, il_15, il_19, il_20, il_24, il_30, il_31, il_44, il_48, il_49, il_52, il_57, il_59, il_60, il_70, il_99, il_100, il_103, il_108, il_114, il_m1, il_m2, il_m3, il_m4, il_m9, il_m10, il_m100] at *) <;> omega) ?_
    refine x_vs (pc := 15) (As := [_]) rfl hS lX0_49 dX0_goOut_15 rfl rfl (by decide) (c_X0_hasBarrow_18 hS) ?_
    rintro _ _ ⟨rfl, hq⟩
    obtain rfl := hq.symm
    refine x_pushI ?_
    refine x_if_ne (pc := 18) (tgt := 23) dX0_goOut_18 (by decide) (fun h18 => ?_) (fun h18 => ?_)
    · refine x_aload_n (pc := 23) (i := 0) dX0_goOut_23 rfl rfl ?_
      refine x_getR (pc := 24) hS fX0_33 dX0_goOut_24 rfl rfl ?_
      refine x_iload_n (pc := 27) (i := 1) dX0_goOut_27 rfl rfl ?_
      refine x_bipush (pc := 28) (v := (-9)) dX0_goOut_28 (by decide) ?_
      refine x_ast (pc := 30) hS dX0_goOut_30 rfl (by rw [vp_in_iff]; (try simp only [b2_e0, b2_n0, Decidable.not_not] at *) <;> (try simp only [i_lt, i_le, i_eq, not_and, not_or, ne_eq, il_0, il_1, il_2, il_3, il_4, il_5, il_6, il_7, il_8, il_9, il_10, il_14, il_15, il_19, il_20, il_24, il_30, il_31, il_44, il_48, il_49, il_52, il_57, il_59, il_60, il_70, il_99, il_100, il_103, il_108, il_114, il_m1, il_m2, il_m3, il_m4, il_m9, il_m10, il_m100] at *) <;> omega) (fun hS => ?_)
      refine x_iconst (pc := 31) (v := 1) dX0_goOut_31 (by decide) ?_
      refine x_ri (pc := 32) dX0_goOut_32 rfl rfl ?_
      rw [if_pos (by (try simp only [b2_e0, b2_n0, Decidable.not_not] at *) <;> (try simp only [i_lt, i_le, i_eq, not_and, not_or, ne_eq, il_0, il_1, il_2, il_3, il_4, il_5, il_6, il_7, il_8, il_9, il_10, il_14, il_15, il_19, il_20, il_24, il_30, il_31, il_44, il_48, il_49, il_52, il_57, il_59, il_60, il_70, il_99, il_100, il_103, il_108, il_114, il_m1, il_m2, il_m3, il_m4, il_m9, il_m10, il_m100] at *) <;> omega), b2_t (by (try simp only [b2_e0, b2_n0, Decidable.not_not] at *) <;> (try simp only [i_lt, i_le, i_eq, not_and, not_or, ne_eq, il_0, il_1, il_2, il_3, il_4, il_5, il_6, il_7, il_8, il_9, il_10, il_14, il_15, il_19, il_20, il_24, il_30, il_31, il_44, il_48, il_49, il_52, il_57, il_59, il_60, il_70, il_99, il_100, il_103, il_108, il_114, il_m1, il_m2, il_m3, il_m4, il_m9, il_m10, il_m100] at *) <;> omega)]; exact ⟨rfl, rfl⟩
    · refine x_iconst (pc := 21) (v := 0) dX0_goOut_21 (by decide) ?_
      refine x_ri (pc := 22) dX0_goOut_22 rfl rfl ?_
      rw [if_neg (by (try simp only [b2_e0, b2_n0, Decidable.not_not] at *) <;> (try simp only [i_lt, i_le, i_eq, not_and, not_or, ne_eq, il_0, il_1, il_2, il_3, il_4, il_5, il_6, il_7, il_8, il_9, il_10, il_14, il_15, il_19, il_20, il_24, il_30, il_31, il_44, il_48, il_49, il_52, il_57, il_59, il_60, il_70, il_99, il_100, il_103, il_108, il_114, il_m1, il_m2, il_m3, il_m4, il_m9, il_m10, il_m100] at *) <;> omega), b2_f (by (try simp only [b2_e0, b2_n0, Decidable.not_not] at *) <;> (try simp only [i_lt, i_le, i_eq, not_and, not_or, ne_eq, il_0, il_1, il_2, il_3, il_4, il_5, il_6, il_7, il_8, il_9, il_10, il_14, il_15, il_19, il_20, il_24, il_30, il_31, il_44, il_48, il_49, il_52, il_57, il_59, il_60, il_70, il_99, il_100, il_103, il_108, il_114, il_m1, il_m2, il_m3, il_m4, il_m9, il_m10, il_m100] at *) <;> omega)]; exact ⟨rfl, rfl⟩

