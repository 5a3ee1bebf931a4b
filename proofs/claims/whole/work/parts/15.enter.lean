abbrev canE (NB NW : Int32) (nw : Nat) (ki be pe si me pl re lo : Nat → Int32) (v b : Int32) : Prop := ((0 ≤ v ∧ v < NW) ∧ (0 ≤ b ∧ b < NB) ∧ suitE me pl re pe si v.toNatClampNeg b.toNatClampNeg) ∧ ¬ (0 ≤ lo v.toNatClampNeg ∧ lo v.toNatClampNeg < NB) ∧ nI (cntN (lodgP lo b) nw) < holdsE (ki b.toNatClampNeg) (be b.toNatClampNeg)
theorem bits32 {p : Nat → Bool} {n : Nat} (hn : n ≤ 5) : bitsN p n < 32 := Nat.lt_of_lt_of_le (bitsN_lt p n) (Nat.pow_le_pow_right (by decide) hn : 2 ^ n ≤ 2 ^ 5)
theorem c_X0_enter_7 {d : Nat} {w : mW} {v b : Int32} {nb nw : Nat} (hS : Shape w) (tb : (fld w 7 0).toInt = (nb : Int)) (hnb : nb ≤ 5) (tw : (fld w 7 1).toInt = (nw : Int)) (hnw : nw ≤ 5) : mC (d + 3) kX0_enter [.ref 7, .int v, .int b] w (fun r w' => r = some (.int (b2 (canE (fld w 7 0) (fld w 7 1) nw (arr w 8) (arr w 9) (arr w 10) (arr w 11) (arr w 12) (arr w 13) (arr w 14) (arr w 15) v b))) ∧ w' = if canE (fld w 7 0) (fld w 7 1) nw (arr w 8) (arr w 9) (arr w 10) (arr w 11) (arr w 12) (arr w 13) (arr w 14) (arr w 15) v b then setA (setA w 15 (upd (arr w 15) v.toNatClampNeg b)) 13 (upd (arr w 13) v.toNatClampNeg (arr w 11 b.toNatClampNeg)) else w) := by
  refine mC.of (L := [_, _, _]) okX0_enter 0 rfl rfl ?_
  refine x_aload_n (pc := 0) (i := 0) dX0_enter_0 rfl rfl ?_
  refine x_iload_n (pc := 1) (i := 1) dX0_enter_1 rfl rfl ?_
  refine x_iload_n (pc := 2) (i := 2) dX0_enter_2 rfl rfl ?_
  refine x_vs (pc := 3) (As := [_, _]) rfl hS lX0_64 dX0_enter_3 rfl rfl (Nat.le_of_ble_eq_true rfl) (c_X0_suits_7 hS tb hnb tw hnw) ?_
  rintro _ _ ⟨rfl, hq⟩
  obtain rfl := hq.symm
  refine x_pushI ?_
  refine x_if_eq (pc := 6) (tgt := 22) dX0_enter_6 (by decide) (fun h6 => ?_) (fun h6 => ?_)
  · refine x_iconst (pc := 22) (v := 0) dX0_enter_22 (by decide) ?_
    refine x_ri (pc := 23) dX0_enter_23 rfl rfl ?_
    rw [if_neg (by (try simp only [canE, suitE] at *) <;> (try simp only [b2_e0, b2_n0, Decidable.not_not] at *) <;> (try simp only [i_lt, i_le, i_eq, not_and, not_or, ne_eq, il_0, il_1, il_2, il_3, il_4, il_5, il_6, il_7, il_8, il_9, il_10, il_14, il_15, il_19, il_20, il_24, il_30, il_31, il_44, il_48, il_49, il_52, il_57, il_59, il_60, il_70, il_99, il_100, il_103, il_108, il_114, il_m1, il_m2, il_m3, il_m4, il_m9, il_m10, il_m100] at *) <;> omega), b2_f (by (try simp only [canE, suitE] at *) <;> (try simp only [b2_e0, b2_n0, Decidable.not_not] at *) <;> (try simp only [i_lt, i_le, i_eq, not_and, not_or, ne_eq, il_0, il_1, il_2, il_3, il_4, il_5, il_6, il_7, il_8, il_9, il_10, il_14, il_15, il_19, il_20, il_24, il_30, il_31, il_44, il_48, il_49, il_52, il_57, il_59, il_60, il_70, il_99, il_100, il_103, il_108, il_114, il_m1, il_m2, il_m3, il_m4, il_m9, il_m10, il_m100] at *) <;> omega)]; exact ⟨rfl, rfl⟩
  · refine x_aload_n (pc := 9) (i := 0) dX0_enter_9 rfl rfl ?_
    refine x_aload_n (pc := 10) (i := 0) dX0_enter_10 rfl rfl ?_
    refine x_getR (pc := 11) hS fX0_33 dX0_enter_11 rfl rfl ?_
    refine x_iload_n (pc := 14) (i := 1) dX0_enter_14 rfl rfl ?_
    refine x_ald (pc := 15) hS dX0_enter_15 rfl (by rw [vp_in_iff]; (try simp only [canE, suitE] at *) <;> (try simp only [b2_e0, b2_n0, Decidable.not_not] at *) <;> (try simp only [i_lt, i_le, i_eq, not_and, not_or, ne_eq, il_0, il_1, il_2, il_3, il_4, il_5, il_6, il_7, il_8, il_9, il_10, il_14, il_15, il_19, il_20, il_24, il_30, il_31, il_44, il_48, il_49, il_52, il_57, il_59, il_60, il_70, il_99, il_100, il_103, il_108, il_114, il_m1, il_m2, il_m3, il_m4, il_m9, il_m10, il_m100] at *) <;> omega) ?_
    refine x_vs (pc := 16) (As := [_]) rfl hS lX0_49 dX0_enter_16 rfl rfl (Nat.le_of_ble_eq_true rfl) (c_X0_hasBarrow_7 hS) ?_
    rintro _ _ ⟨rfl, hq⟩
    obtain rfl := hq.symm
    refine x_pushI ?_
    refine x_if_eq (pc := 19) (tgt := 24) dX0_enter_19 (by decide) (fun h19 => ?_) (fun h19 => ?_)
    · refine x_aload_n (pc := 24) (i := 0) dX0_enter_24 rfl rfl ?_
      refine x_iload_n (pc := 25) (i := 2) dX0_enter_25 rfl rfl ?_
      refine x_vs (pc := 26) (As := [_]) rfl hS lX0_68 dX0_enter_26 rfl rfl (Nat.le_of_ble_eq_true rfl) (c_X0_lodgersOf_7 hS tw hnw) ?_
      rintro _ _ ⟨rfl, hq⟩
      obtain rfl := hq.symm
      refine x_pushI ?_
      refine x_ss (pc := 29) (As := [_]) rfl lX0_72 dX0_enter_29 rfl (Nat.le_of_ble_eq_true rfl) (c_bitCount (bits32 hnw)) ?_
      rintro _ _ ⟨rfl, hq⟩
      obtain rfl := hq.symm
      refine x_pushI ?_
      rw [popc_bits _ hnw]
      refine x_aload_n (pc := 32) (i := 0) dX0_enter_32 rfl rfl ?_
      refine x_iload_n (pc := 33) (i := 2) dX0_enter_33 rfl rfl ?_
      refine x_vs (pc := 34) (As := [_]) rfl hS lX0_77 dX0_enter_34 rfl rfl (Nat.le_of_ble_eq_true rfl) (c_X0_holdsOf_7 hS tb hnb) ?_
      rintro _ _ ⟨rfl, hq⟩
      obtain rfl := hq.symm
      refine x_pushI ?_
      rw [if_pos (c := 0 ≤ b ∧ b < fld w 7 0) (by (try simp only [canE, suitE] at *) <;> (try simp only [b2_e0, b2_n0, Decidable.not_not] at *) <;> (try simp only [i_lt, i_le, i_eq, not_and, not_or, ne_eq, il_0, il_1, il_2, il_3, il_4, il_5, il_6, il_7, il_8, il_9, il_10, il_14, il_15, il_19, il_20, il_24, il_30, il_31, il_44, il_48, il_49, il_52, il_57, il_59, il_60, il_70, il_99, il_100, il_103, il_108, il_114, il_m1, il_m2, il_m3, il_m4, il_m9, il_m10, il_m100] at *) <;> omega)]
      refine x_icmp_lt (pc := 37) (tgt := 42) dX0_enter_37 (by decide) (fun h37 => ?_) (fun h37 => ?_)
      · refine x_aload_n (pc := 42) (i := 0) dX0_enter_42 rfl rfl ?_
        refine x_getR (pc := 43) hS fX0_33 dX0_enter_43 rfl rfl ?_
        refine x_iload_n (pc := 46) (i := 1) dX0_enter_46 rfl rfl ?_
        refine x_iload_n (pc := 47) (i := 2) dX0_enter_47 rfl rfl ?_
        refine x_ast (pc := 48) hS dX0_enter_48 rfl (by rw [vp_in_iff]; (try simp only [canE, suitE] at *) <;> (try simp only [b2_e0, b2_n0, Decidable.not_not] at *) <;> (try simp only [i_lt, i_le, i_eq, not_and, not_or, ne_eq, il_0, il_1, il_2, il_3, il_4, il_5, il_6, il_7, il_8, il_9, il_10, il_14, il_15, il_19, il_20, il_24, il_30, il_31, il_44, il_48, il_49, il_52, il_57, il_59, il_60, il_70, il_99, il_100, il_103, il_108, il_114, il_m1, il_m2, il_m3, il_m4, il_m9, il_m10, il_m100] at *) <;> omega) (fun hS => ?_)
        refine x_aload_n (pc := 49) (i := 0) dX0_enter_49 rfl rfl ?_
        refine x_getR (pc := 50) hS fX0_27 dX0_enter_50 rfl rfl ?_
        refine x_iload_n (pc := 53) (i := 1) dX0_enter_53 rfl rfl ?_
        refine x_aload_n (pc := 54) (i := 0) dX0_enter_54 rfl rfl ?_
        refine x_getR (pc := 55) hS fX0_21 dX0_enter_55 rfl rfl ?_
        refine x_iload_n (pc := 58) (i := 2) dX0_enter_58 rfl rfl ?_
        refine x_ald (pc := 59) hS dX0_enter_59 rfl (by rw [vp_in_iff]; (try simp only [canE, suitE] at *) <;> (try simp only [b2_e0, b2_n0, Decidable.not_not] at *) <;> (try simp only [i_lt, i_le, i_eq, not_and, not_or, ne_eq, il_0, il_1, il_2, il_3, il_4, il_5, il_6, il_7, il_8, il_9, il_10, il_14, il_15, il_19, il_20, il_24, il_30, il_31, il_44, il_48, il_49, il_52, il_57, il_59, il_60, il_70, il_99, il_100, il_103, il_108, il_114, il_m1, il_m2, il_m3, il_m4, il_m9, il_m10, il_m100] at *) <;> omega) ?_
        refine x_ast (pc := 60) hS dX0_enter_60 rfl (by rw [vp_in_iff]; (try simp only [canE, suitE] at *) <;> (try simp only [b2_e0, b2_n0, Decidable.not_not] at *) <;> (try simp only [i_lt, i_le, i_eq, not_and, not_or, ne_eq, il_0, il_1, il_2, il_3, il_4, il_5, il_6, il_7, il_8, il_9, il_10, il_14, il_15, il_19, il_20, il_24, il_30, il_31, il_44, il_48, il_49, il_52, il_57, il_59, il_60, il_70, il_99, il_100, il_103, il_108, il_114, il_m1, il_m2, il_m3, il_m4, il_m9, il_m10, il_m100] at *) <;> omega) (fun hS => ?_)
        refine x_iconst (pc := 61) (v := 1) dX0_enter_61 (by decide) ?_
        refine x_ri (pc := 62) dX0_enter_62 rfl rfl ?_
        rw [if_pos (by (try simp only [canE, suitE] at *) <;> (try simp only [b2_e0, b2_n0, Decidable.not_not] at *) <;> (try simp only [i_lt, i_le, i_eq, not_and, not_or, ne_eq, il_0, il_1, il_2, il_3, il_4, il_5, il_6, il_7, il_8, il_9, il_10, il_14, il_15, il_19, il_20, il_24, il_30, il_31, il_44, il_48, il_49, il_52, il_57, il_59, il_60, il_70, il_99, il_100, il_103, il_108, il_114, il_m1, il_m2, il_m3, il_m4, il_m9, il_m10, il_m100] at *) <;> omega), b2_t (by (try simp only [canE, suitE] at *) <;> (try simp only [b2_e0, b2_n0, Decidable.not_not] at *) <;> (try simp only [i_lt, i_le, i_eq, not_and, not_or, ne_eq, il_0, il_1, il_2, il_3, il_4, il_5, il_6, il_7, il_8, il_9, il_10, il_14, il_15, il_19, il_20, il_24, il_30, il_31, il_44, il_48, il_49, il_52, il_57, il_59, il_60, il_70, il_99, il_100, il_103, il_108, il_114, il_m1, il_m2, il_m3, il_m4, il_m9, il_m10, il_m100] at *) <;> omega)]; exact ⟨rfl, by rw [arr_setA_a (by decide), arr_setA_a (by decide)]⟩
      · refine x_iconst (pc := 40) (v := 0) dX0_enter_40 (by decide) ?_
        refine x_ri (pc := 41) dX0_enter_41 rfl rfl ?_
        rw [if_neg (by (try simp only [canE, suitE] at *) <;> (try simp only [b2_e0, b2_n0, Decidable.not_not] at *) <;> (try simp only [i_lt, i_le, i_eq, not_and, not_or, ne_eq, il_0, il_1, il_2, il_3, il_4, il_5, il_6, il_7, il_8, il_9, il_10, il_14, il_15, il_19, il_20, il_24, il_30, il_31, il_44, il_48, il_49, il_52, il_57, il_59, il_60, il_70, il_99, il_100, il_103, il_108, il_114, il_m1, il_m2, il_m3, il_m4, il_m9, il_m10, il_m100] at *) <;> omega), b2_f (by (try simp only [canE, suitE] at *) <;> (try simp only [b2_e0, b2_n0, Decidable.not_not] at *) <;> (try simp only [i_lt, i_le, i_eq, not_and, not_or, ne_eq, il_0, il_1, il_2, il_3, il_4, il_5, il_6, il_7, il_8, il_9, il_10, il_14, il_15, il_19, il_20, il_24, il_30, il_31, il_44, il_48, il_49, il_52, il_57, il_59, il_60, il_70, il_99, il_100, il_103, il_108, il_114, il_m1, il_m2, il_m3, il_m4, il_m9, il_m10, il_m100] at *) <;> omega)]; exact ⟨rfl, rfl⟩
    · refine x_iconst (pc := 22) (v := 0) dX0_enter_22 (by decide) ?_
      refine x_ri (pc := 23) dX0_enter_23 rfl rfl ?_
      rw [if_neg (by (try simp only [canE, suitE] at *) <;> (try simp only [b2_e0, b2_n0, Decidable.not_not] at *) <;> (try simp only [i_lt, i_le, i_eq, not_and, not_or, ne_eq, il_0, il_1, il_2, il_3, il_4, il_5, il_6, il_7, il_8, il_9, il_10, il_14, il_15, il_19, il_20, il_24, il_30, il_31, il_44, il_48, il_49, il_52, il_57, il_59, il_60, il_70, il_99, il_100, il_103, il_108, il_114, il_m1, il_m2, il_m3, il_m4, il_m9, il_m10, il_m100] at *) <;> omega), b2_f (by (try simp only [canE, suitE] at *) <;> (try simp only [b2_e0, b2_n0, Decidable.not_not] at *) <;> (try simp only [i_lt, i_le, i_eq, not_and, not_or, ne_eq, il_0, il_1, il_2, il_3, il_4, il_5, il_6, il_7, il_8, il_9, il_10, il_14, il_15, il_19, il_20, il_24, il_30, il_31, il_44, il_48, il_49, il_52, il_57, il_59, il_60, il_70, il_99, il_100, il_103, il_108, il_114, il_m1, il_m2, il_m3, il_m4, il_m9, il_m10, il_m100] at *) <;> omega)]; exact ⟨rfl, rfl⟩
theorem c_X0_enter_18 {d : Nat} {w : mW} {v b : Int32} {nb nw : Nat} (hS : Shape w) (tb : (fld w 18 0).toInt = (nb : Int)) (hnb : nb ≤ 5) (tw : (fld w 18 1).toInt = (nw : Int)) (hnw : nw ≤ 5) : mC (d + 3) kX0_enter [.ref 18, .int v, .int b] w (fun r w' => r = some (.int (b2 (canE (fld w 18 0) (fld w 18 1) nw (arr w 19) (arr w 20) (arr w 21) (arr w 22) (arr w 23) (arr w 24) (arr w 25) (arr w 26) v b))) ∧ w' = if canE (fld w 18 0) (fld w 18 1) nw (arr w 19) (arr w 20) (arr w 21) (arr w 22) (arr w 23) (arr w 24) (arr w 25) (arr w 26) v b then setA (setA w 26 (upd (arr w 26) v.toNatClampNeg b)) 24 (upd (arr w 24) v.toNatClampNeg (arr w 22 b.toNatClampNeg)) else w) := by
  refine mC.of (L := [_, _, _]) okX0_enter 0 rfl rfl ?_
  refine x_aload_n (pc := 0) (i := 0) dX0_enter_0 rfl rfl ?_
  refine x_iload_n (pc := 1) (i := 1) dX0_enter_1 rfl rfl ?_
  refine x_iload_n (pc := 2) (i := 2) dX0_enter_2 rfl rfl ?_
  refine x_vs (pc := 3) (As := [_, _]) rfl hS lX0_64 dX0_enter_3 rfl rfl (Nat.le_of_ble_eq_true rfl) (c_X0_suits_18 hS tb hnb tw hnw) ?_
  rintro _ _ ⟨rfl, hq⟩
  obtain rfl := hq.symm
  refine x_pushI ?_
  refine x_if_eq (pc := 6) (tgt := 22) dX0_enter_6 (by decide) (fun h6 => ?_) (fun h6 => ?_)
  · refine x_iconst (pc := 22) (v := 0) dX0_enter_22 (by decide) ?_
    refine x_ri (pc := 23) dX0_enter_23 rfl rfl ?_
    rw [if_neg (by (try simp only [canE, suitE] at *) <;> (try simp only [b2_e0, b2_n0, Decidable.not_not] at *) <;> (try simp only [i_lt, i_le, i_eq, not_and, not_or, ne_eq, il_0, il_1, il_2, il_3, il_4, il_5, il_6, il_7, il_8, il_9, il_10, il_14, il_15, il_19, il_20, il_24, il_30, il_31, il_44, il_48, il_49, il_52, il_57, il_59, il_60, il_70, il_99, il_100, il_103, il_108, il_114, il_m1, il_m2, il_m3, il_m4, il_m9, il_m10, il_m100] at *) <;> omega), b2_f (by (try simp only [canE, suitE] at *) <;> (try simp only [b2_e0, b2_n0, Decidable.not_not] at *) <;> (try simp only [i_lt, i_le, i_eq, not_and, not_or, ne_eq, il_0, il_1, il_2, il_3, il_4, il_5, il_6, il_7, il_8, il_9, il_10, il_14, il_15, il_19, il_20, il_24, il_30, il_31, il_44, il_48, il_49, il_52, il_57, il_59, il_60, il_70, il_99, il_100, il_103, il_108, il_114, il_m1, il_m2, il_m3, il_m4, il_m9, il_m10, il_m100] at *) <;> omega)]; exact ⟨rfl, rfl⟩
  · refine x_aload_n (pc := 9) (i := 0) dX0_enter_9 rfl rfl ?_
    refine x_aload_n (pc := 10) (i := 0) dX0_enter_10 rfl rfl ?_
    refine x_getR (pc := 11) hS fX0_33 dX0_enter_11 rfl rfl ?_
    refine x_iload_n (pc := 14) (i := 1) dX0_enter_14 rfl rfl ?_
    refine x_ald (pc := 15) hS dX0_enter_15 rfl (by rw [vp_in_iff]; (try simp only [canE, suitE] at *) <;> (try simp only [b2_e0, b2_n0, Decidable.not_not] at *) <;> (try simp only [i_lt, i_le, i_eq, not_and, not_or, ne_eq, il_0, il_1, il_2, il_3, il_4, il_5, il_6, il_7, il_8, il_9, il_10, il_14, il_15, il_19, il_20, il_24, il_30, il_31, il_44, il_48, il_49, il_52, il_57, il_59, il_60, il_70, il_99, il_100, il_103, il_108, il_114, il_m1, il_m2, il_m3, il_m4, il_m9, il_m10, il_m100] at *) <;> omega) ?_
    refine x_vs (pc := 16) (As := [_]) rfl hS lX0_49 dX0_enter_16 rfl rfl (Nat.le_of_ble_eq_true rfl) (c_X0_hasBarrow_18 hS) ?_
    rintro _ _ ⟨rfl, hq⟩
    obtain rfl := hq.symm
    refine x_pushI ?_
    refine x_if_eq (pc := 19) (tgt := 24) dX0_enter_19 (by decide) (fun h19 => ?_) (fun h19 => ?_)
    · refine x_aload_n (pc := 24) (i := 0) dX0_enter_24 rfl rfl ?_
      refine x_iload_n (pc := 25) (i := 2) dX0_enter_25 rfl rfl ?_
      refine x_vs (pc := 26) (As := [_]) rfl hS lX0_68 dX0_enter_26 rfl rfl (Nat.le_of_ble_eq_true rfl) (c_X0_lodgersOf_18 hS tw hnw) ?_
      rintro _ _ ⟨rfl, hq⟩
      obtain rfl := hq.symm
      refine x_pushI ?_
      refine x_ss (pc := 29) (As := [_]) rfl lX0_72 dX0_enter_29 rfl (Nat.le_of_ble_eq_true rfl) (c_bitCount (bits32 hnw)) ?_
      rintro _ _ ⟨rfl, hq⟩
      obtain rfl := hq.symm
      refine x_pushI ?_
      rw [popc_bits _ hnw]
      refine x_aload_n (pc := 32) (i := 0) dX0_enter_32 rfl rfl ?_
      refine x_iload_n (pc := 33) (i := 2) dX0_enter_33 rfl rfl ?_
      refine x_vs (pc := 34) (As := [_]) rfl hS lX0_77 dX0_enter_34 rfl rfl (Nat.le_of_ble_eq_true rfl) (c_X0_holdsOf_18 hS tb hnb) ?_
      rintro _ _ ⟨rfl, hq⟩
      obtain rfl := hq.symm
      refine x_pushI ?_
      rw [if_pos (c := 0 ≤ b ∧ b < fld w 18 0) (by (try simp only [canE, suitE] at *) <;> (try simp only [b2_e0, b2_n0, Decidable.not_not] at *) <;> (try simp only [i_lt, i_le, i_eq, not_and, not_or, ne_eq, il_0, il_1, il_2, il_3, il_4, il_5, il_6, il_7, il_8, il_9, il_10, il_14, il_15, il_19, il_20, il_24, il_30, il_31, il_44, il_48, il_49, il_52, il_57, il_59, il_60, il_70, il_99, il_100, il_103, il_108, il_114, il_m1, il_m2, il_m3, il_m4, il_m9, il_m10, il_m100] at *) <;> omega)]
      refine x_icmp_lt (pc := 37) (tgt := 42) dX0_enter_37 (by decide) (fun h37 => ?_) (fun h37 => ?_)
      · refine x_aload_n (pc := 42) (i := 0) dX0_enter_42 rfl rfl ?_
        refine x_getR (pc := 43) hS fX0_33 dX0_enter_43 rfl rfl ?_
        refine x_iload_n (pc := 46) (i := 1) dX0_enter_46 rfl rfl ?_
        refine x_iload_n (pc := 47) (i := 2) dX0_enter_47 rfl rfl ?_
        refine x_ast (pc := 48) hS dX0_enter_48 rfl (by rw [vp_in_iff]; (try simp only [canE, suitE] at *) <;> (try simp only [b2_e0, b2_n0, Decidable.not_not] at *) <;> (try simp only [i_lt, i_le, i_eq, not_and, not_or, ne_eq, il_0, il_1, il_2, il_3, il_4, il_5, il_6, il_7, il_8, il_9, il_10, il_14, il_15, il_19, il_20, il_24, il_30, il_31, il_44, il_48, il_49, il_52, il_57, il_59, il_60, il_70, il_99, il_100, il_103, il_108, il_114, il_m1, il_m2, il_m3, il_m4, il_m9, il_m10, il_m100] at *) <;> omega) (fun hS => ?_)
        refine x_aload_n (pc := 49) (i := 0) dX0_enter_49 rfl rfl ?_
        refine x_getR (pc := 50) hS fX0_27 dX0_enter_50 rfl rfl ?_
        refine x_iload_n (pc := 53) (i := 1) dX0_enter_53 rfl rfl ?_
        refine x_aload_n (pc := 54) (i := 0) dX0_enter_54 rfl rfl ?_
        refine x_getR (pc := 55) hS fX0_21 dX0_enter_55 rfl rfl ?_
        refine x_iload_n (pc := 58) (i := 2) dX0_enter_58 rfl rfl ?_
        refine x_ald (pc := 59) hS dX0_enter_59 rfl (by rw [vp_in_iff]; (try simp only [canE, suitE] at *) <;> (try simp only [b2_e0, b2_n0, Decidable.not_not] at *) <;> (try simp only [i_lt, i_le, i_eq, not_and, not_or, ne_eq, il_0, il_1, il_2, il_3, il_4, il_5, il_6, il_7, il_8, il_9, il_10, il_14, il_15, il_19, il_20, il_24, il_30, il_31, il_44, il_48, il_49, il_52, il_57, il_59, il_60, il_70, il_99, il_100, il_103, il_108, il_114, il_m1, il_m2, il_m3, il_m4, il_m9, il_m10, il_m100] at *) <;> omega) ?_
        refine x_ast (pc := 60) hS dX0_enter_60 rfl (by rw [vp_in_iff]; (try simp only [canE, suitE] at *) <;> (try simp only [b2_e0, b2_n0, Decidable.not_not] at *) <;> (try simp only [i_lt, i_le, i_eq, not_and, not_or, ne_eq, il_0, il_1, il_2, il_3, il_4, il_5, il_6, il_7, il_8, il_9, il_10, il_14, il_15, il_19, il_20, il_24, il_30, il_31, il_44, il_48, il_49, il_52, il_57, il_59, il_60, il_70, il_99, il_100, il_103, il_108, il_114, il_m1, il_m2, il_m3, il_m4, il_m9, il_m10, il_m100] at *) <;> omega) (fun hS => ?_)
        refine x_iconst (pc := 61) (v := 1) dX0_enter_61 (by decide) ?_
        refine x_ri (pc := 62) dX0_enter_62 rfl rfl ?_
        rw [if_pos (by (try simp only [canE, suitE] at *) <;> (try simp only [b2_e0, b2_n0, Decidable.not_not] at *) <;> (try simp only [i_lt, i_le, i_eq, not_and, not_or, ne_eq, il_0, il_1, il_2, il_3, il_4, il_5, il_6, il_7, il_8, il_9, il_10, il_14, il_15, il_19, il_20, il_24, il_30, il_31, il_44, il_48, il_49, il_52, il_57, il_59, il_60, il_70, il_99, il_100, il_103, il_108, il_114, il_m1, il_m2, il_m3, il_m4, il_m9, il_m10, il_m100] at *) <;> omega), b2_t (by (try simp only [canE, suitE] at *) <;> (try simp only [b2_e0, b2_n0, Decidable.not_not] at *) <;> (try simp only [i_lt, i_le, i_eq, not_and, not_or, ne_eq, il_0, il_1, il_2, il_3, il_4, il_5, il_6, il_7, il_8, il_9, il_10, il_14, il_15, il_19, il_20, il_24, il_30, il_31, il_44, il_48, il_49, il_52, il_57, il_59, il_60, il_70, il_99, il_100, il_103, il_108, il_114, il_m1, il_m2, il_m3, il_m4, il_m9, il_m10, il_m100] at *) <;> omega)]; exact ⟨rfl, by rw [arr_setA_a (by decide), arr_setA_a (by decide)]⟩
      · refine x_iconst (pc := 40) (v := 0) dX0_enter_40 (by decide) ?_
        refine x_ri (pc := 41) dX0_enter_41 rfl rfl ?_
        rw [if_neg (by (try simp only [canE, suitE] at *) <;> (try simp only [b2_e0, b2_n0, Decidable.not_not] at *) <;> (try simp only [i_lt, i_le, i_eq, not_and, not_or, ne_eq, il_0, il_1, il_2, il_3, il_4, il_5, il_6, il_7, il_8, il_9, il_10, il_14, il_15, il_19, il_20, il_24, il_30, il_31, il_44, il_48, il_49, il_52, il_57, il_59, il_60, il_70, il_99, il_100, il_103, il_108, il_114, il_m1, il_m2, il_m3, il_m4, il_m9, il_m10, il_m100] at *) <;> omega), b2_f (by (try simp only [canE, suitE] at *) <;> (try simp only [b2_e0, b2_n0, Decidable.not_not] at *) <;> (try simp only [i_lt, i_le, i_eq, not_and, not_or, ne_eq, il_0, il_1, il_2, il_3, il_4, il_5, il_6, il_7, il_8, il_9, il_10, il_14, il_15, il_19, il_20, il_24, il_30, il_31, il_44, il_48, il_49, il_52, il_57, il_59, il_60, il_70, il_99, il_100, il_103, il_108, il_114, il_m1, il_m2, il_m3, il_m4, il_m9, il_m10, il_m100] at *) <;> omega)]; exact ⟨rfl, rfl⟩
    · refine x_iconst (pc := 22) (v := 0) dX0_enter_22 (by decide) ?_
      refine x_ri (pc := 23) dX0_enter_23 rfl rfl ?_
      rw [if_neg (by (try simp only [canE, suitE] at *) <;> (try simp only [b2_e0, b2_n0, Decidable.not_not] at *) <;> (try simp only [i_lt, i_le, i_eq, not_and, not_or, ne_eq, il_0, il_1, il_2, il_3, il_4, il_5, il_6, il_7, il_8, il_9, il_10, il_14, il_15, il_19, il_20, il_24, il_30, il_31, il_44, il_48, il_49, il_52, il_57, il_59, il_60, il_70, il_99, il_100, il_103, il_108, il_114, il_m1, il_m2, il_m3, il_m4, il_m9, il_m10, il_m100] at *) <;> omega), b2_f (by (try simp only [canE, suitE] at *) <;> (try simp only [b2_e0, b2_n0, Decidable.not_not] at *) <;> (try simp only [i_lt, i_le, i_eq, not_and, not_or, ne_eq, il_0, il_1, il_2, il_3, il_4, il_5, il_6, il_7, il_8, il_9, il_10, il_14, il_15, il_19, il_20, il_24, il_30, il_31, il_44, il_48, il_49, il_52, il_57, il_59, il_60, il_70, il_99, il_100, il_103, il_108, il_114, il_m1, il_m2, il_m3, il_m4, il_m9, il_m10, il_m100] at *) <;> omega)]; exact ⟨rfl, rfl⟩

