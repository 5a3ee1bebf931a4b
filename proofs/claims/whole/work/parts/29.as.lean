-- as
theorem c_X7_as_a {d : Nat} {w : mW} {b k : Int32} (hS : Shape w) (h : ¬ (0 ≤ b ∧ b < fld w 7 0)) : mC (d + 1) kX7_as [.ref 0, .int b, .int k] w (fun r w' => r = some (.int (-1)) ∧ w' = setF w 0 8 0) := by
  refine mC.of (L := [_, _, _]) okX7_as 0 rfl rfl ?_
  refine x_aload_n (pc := 0) (i := 0) dX7_as_0 rfl rfl ?_
  refine x_iconst (pc := 1) (v := 0) dX7_as_1 (by decide) ?_
  refine x_putI (pc := 2) hS fX7_64 dX7_as_2 rfl rfl rfl rfl (fun hS => ?_)
  refine x_aload_n (pc := 5) (i := 0) dX7_as_5 rfl rfl ?_
  refine x_getR (pc := 6) hS fX7_28 dX7_as_6 rfl rfl ?_
  refine x_iload_n (pc := 9) (i := 1) dX7_as_9 rfl rfl ?_
  refine x_vs (pc := 10) (As := [_]) rfl hS lX7_100 dX7_as_10 rfl rfl (Nat.le_of_ble_eq_true rfl) (c_X0_hasBarrow_7 hS) ?_
  rintro _ _ ⟨rfl, hq⟩
  obtain rfl := hq.symm
  refine x_pushI ?_
  refine x_if_ne (pc := 13) (tgt := 18) dX7_as_13 (by decide) (fun h13 => absurd h13 (by rw [b2_n0, fld_setF_a (by decide)]; exact h)) (fun h13 => ?_)
  refine x_iconst (pc := 16) (v := (-1)) dX7_as_16 (by decide) ?_
  refine x_ri (pc := 17) dX7_as_17 rfl rfl ?_
  exact ⟨rfl, rfl⟩
theorem c_X7_as_b {d : Nat} {w : mW} {k : Int32} {b nb : Nat} (hS : Shape w) (tb : (fld w 7 0).toInt = (nb : Int)) (hnb : nb ≤ 5) (hb : b < nb) (hk : ¬ (0 ≤ k ∧ k ≤ 2)) : mC (d + 1) kX7_as [.ref 0, .int (nI b), .int k] w (fun r w' => r = some (.int (-2)) ∧ w' = setF w 0 8 0) := by
  have tk : (nI b).toInt = (b : Int) := nI_toInt (by omega)
  refine mC.of (L := [_, _, _]) okX7_as 0 rfl rfl ?_
  refine x_aload_n (pc := 0) (i := 0) dX7_as_0 rfl rfl ?_
  refine x_iconst (pc := 1) (v := 0) dX7_as_1 (by decide) ?_
  refine x_putI (pc := 2) hS fX7_64 dX7_as_2 rfl rfl rfl rfl (fun hS => ?_)
  refine x_aload_n (pc := 5) (i := 0) dX7_as_5 rfl rfl ?_
  refine x_getR (pc := 6) hS fX7_28 dX7_as_6 rfl rfl ?_
  refine x_iload_n (pc := 9) (i := 1) dX7_as_9 rfl rfl ?_
  refine x_vs (pc := 10) (As := [_]) rfl hS lX7_100 dX7_as_10 rfl rfl (Nat.le_of_ble_eq_true rfl) (c_X0_hasBarrow_7 hS) ?_
  rintro _ _ ⟨rfl, hq⟩
  obtain rfl := hq.symm
  refine x_pushI ?_
  refine x_if_ne (pc := 13) (tgt := 18) dX7_as_13 (by decide) (fun h13 => ?_) (fun h13 => absurd h13 (by rw [b2_n0, fld_setF_a (by decide)]; exact ⟨by (try simp only [b2_e0, b2_n0, Decidable.not_not] at *) <;> (try simp only [i_lt, i_le, i_eq, not_and, not_or, ne_eq, il_0, il_1, il_2, il_3, il_4, il_5, il_6, il_7, il_8, il_9, il_10, il_14, il_15, il_19, il_20, il_24, il_30, il_31, il_44, il_48, il_49, il_52, il_57, il_59, il_60, il_70, il_99, il_100, il_103, il_108, il_114, il_m1, il_m2, il_m3, il_m4, il_m9, il_m10, il_m100] at *) <;> omega, by (try simp only [b2_e0, b2_n0, Decidable.not_not] at *) <;> (try simp only [i_lt, i_le, i_eq, not_and, not_or, ne_eq, il_0, il_1, il_2, il_3, il_4, il_5, il_6, il_7, il_8, il_9, il_10, il_14, il_15, il_19, il_20, il_24, il_30, il_31, il_44, il_48, il_49, il_52, il_57, il_59, il_60, il_70, il_99, il_100, il_103, il_108, il_114, il_m1, il_m2, il_m3, il_m4, il_m9, il_m10, il_m100] at *) <;> omega⟩))
  refine x_iload_n (pc := 18) (i := 2) dX7_as_18 rfl rfl ?_
  refine x_if_lt (pc := 19) (tgt := 27) dX7_as_19 (by decide) (fun h19 => ?_) (fun h19 => ?_)
  · refine x_bipush (pc := 27) (v := (-2)) dX7_as_27 (by decide) ?_
    refine x_ri (pc := 29) dX7_as_29 rfl rfl ?_
    exact ⟨rfl, rfl⟩
  · refine x_iload_n (pc := 22) (i := 2) dX7_as_22 rfl rfl ?_
    refine x_iconst (pc := 23) (v := 2) dX7_as_23 (by decide) ?_
    refine x_icmp_le (pc := 24) (tgt := 30) dX7_as_24 (by decide) (fun h24 => ?_) (fun h24 => ?_)
    · exfalso; (try simp only [b2_e0, b2_n0, Decidable.not_not] at *) <;> (try simp only [i_lt, i_le, i_eq, not_and, not_or, ne_eq, il_0, il_1, il_2, il_3, il_4, il_5, il_6, il_7, il_8, il_9, il_10, il_14, il_15, il_19, il_20, il_24, il_30, il_31, il_44, il_48, il_49, il_52, il_57, il_59, il_60, il_70, il_99, il_100, il_103, il_108, il_114, il_m1, il_m2, il_m3, il_m4, il_m9, il_m10, il_m100] at *) <;> omega
    · refine x_bipush (pc := 27) (v := (-2)) dX7_as_27 (by decide) ?_
      refine x_ri (pc := 29) dX7_as_29 rfl rfl ?_
      exact ⟨rfl, rfl⟩
theorem c_X7_as_c {d : Nat} {w : mW} {k : Int32} {b nb : Nat} (hS0 : Shape w) (tb : (fld w 7 0).toInt = (nb : Int)) (hnb : nb ≤ 5) (hb : b < nb) (hk : 0 ≤ k ∧ k ≤ 2) (hk2 : k ≤ arr w 8 b) : mC (d + 1) kX7_as [.ref 0, .int (nI b), .int k] w (fun r w' => r = some (.int 1) ∧ w' = setF w 0 8 0) := by
  have tk : (nI b).toInt = (b : Int) := nI_toInt (by omega)
  have hS := hS0
  refine mC.of (L := [_, _, _]) okX7_as 0 rfl rfl ?_
  refine x_aload_n (pc := 0) (i := 0) dX7_as_0 rfl rfl ?_
  refine x_iconst (pc := 1) (v := 0) dX7_as_1 (by decide) ?_
  refine x_putI (pc := 2) hS fX7_64 dX7_as_2 rfl rfl rfl rfl (fun hS => ?_)
  refine x_aload_n (pc := 5) (i := 0) dX7_as_5 rfl rfl ?_
  refine x_getR (pc := 6) hS fX7_28 dX7_as_6 rfl rfl ?_
  refine x_iload_n (pc := 9) (i := 1) dX7_as_9 rfl rfl ?_
  refine x_vs (pc := 10) (As := [_]) rfl hS lX7_100 dX7_as_10 rfl rfl (Nat.le_of_ble_eq_true rfl) (c_X0_hasBarrow_7 hS) ?_
  rintro _ _ ⟨rfl, hq⟩
  obtain rfl := hq.symm
  refine x_pushI ?_
  refine x_if_ne (pc := 13) (tgt := 18) dX7_as_13 (by decide) (fun h13 => ?_) (fun h13 => absurd h13 (by rw [b2_n0, fld_setF_a (by decide)]; exact ⟨by (try simp only [b2_e0, b2_n0, Decidable.not_not] at *) <;> (try simp only [i_lt, i_le, i_eq, not_and, not_or, ne_eq, il_0, il_1, il_2, il_3, il_4, il_5, il_6, il_7, il_8, il_9, il_10, il_14, il_15, il_19, il_20, il_24, il_30, il_31, il_44, il_48, il_49, il_52, il_57, il_59, il_60, il_70, il_99, il_100, il_103, il_108, il_114, il_m1, il_m2, il_m3, il_m4, il_m9, il_m10, il_m100] at *) <;> omega, by (try simp only [b2_e0, b2_n0, Decidable.not_not] at *) <;> (try simp only [i_lt, i_le, i_eq, not_and, not_or, ne_eq, il_0, il_1, il_2, il_3, il_4, il_5, il_6, il_7, il_8, il_9, il_10, il_14, il_15, il_19, il_20, il_24, il_30, il_31, il_44, il_48, il_49, il_52, il_57, il_59, il_60, il_70, il_99, il_100, il_103, il_108, il_114, il_m1, il_m2, il_m3, il_m4, il_m9, il_m10, il_m100] at *) <;> omega⟩))
  refine x_iload_n (pc := 18) (i := 2) dX7_as_18 rfl rfl ?_
  refine x_if_lt (pc := 19) (tgt := 27) dX7_as_19 (by decide) (fun h19 => absurd h19 (by (try simp only [b2_e0, b2_n0, Decidable.not_not] at *) <;> (try simp only [i_lt, i_le, i_eq, not_and, not_or, ne_eq, il_0, il_1, il_2, il_3, il_4, il_5, il_6, il_7, il_8, il_9, il_10, il_14, il_15, il_19, il_20, il_24, il_30, il_31, il_44, il_48, il_49, il_52, il_57, il_59, il_60, il_70, il_99, il_100, il_103, il_108, il_114, il_m1, il_m2, il_m3, il_m4, il_m9, il_m10, il_m100] at *) <;> omega)) (fun h19 => ?_)
  refine x_iload_n (pc := 22) (i := 2) dX7_as_22 rfl rfl ?_
  refine x_iconst (pc := 23) (v := 2) dX7_as_23 (by decide) ?_
  refine x_icmp_le (pc := 24) (tgt := 30) dX7_as_24 (by decide) (fun h24 => ?_) (fun h24 => absurd h24 (by (try simp only [b2_e0, b2_n0, Decidable.not_not] at *) <;> (try simp only [i_lt, i_le, i_eq, not_and, not_or, ne_eq, il_0, il_1, il_2, il_3, il_4, il_5, il_6, il_7, il_8, il_9, il_10, il_14, il_15, il_19, il_20, il_24, il_30, il_31, il_44, il_48, il_49, il_52, il_57, il_59, il_60, il_70, il_99, il_100, il_103, il_108, il_114, il_m1, il_m2, il_m3, il_m4, il_m9, il_m10, il_m100] at *) <;> omega))
  refine x_aload_n (pc := 30) (i := 0) dX7_as_30 rfl rfl ?_
  refine x_getR (pc := 31) hS fX7_28 dX7_as_31 rfl rfl ?_
  refine x_getR (pc := 34) hS fX7_103 dX7_as_34 rfl rfl ?_
  refine x_iload_n (pc := 37) (i := 1) dX7_as_37 rfl rfl ?_
  refine x_aldN (pc := 38) hS dX7_as_38 rfl (by omega) (by decide) ?_
  refine x_iload_n (pc := 39) (i := 2) dX7_as_39 rfl rfl ?_
  refine x_icmp_ge (pc := 40) (tgt := 48) dX7_as_40 (by decide) (fun h40 => ?_) (fun h40 => absurd h40 (by rw [arr_setF]; exact not_not_intro hk2))
  refine x_aload_n (pc := 48) (i := 0) dX7_as_48 rfl rfl ?_
  refine x_getI (pc := 49) hS fX7_64 dX7_as_49 rfl rfl ?_
  rw [fld_setF hS0 rfl rfl]
  refine x_if_ne (pc := 52) (tgt := 59) dX7_as_52 (by decide) (fun h52 => absurd h52 (by exact not_not_intro rfl)) (fun h52 => ?_)
  refine x_iconst (pc := 55) (v := 1) dX7_as_55 (by decide) ?_
  refine x_goto (pc := 56) (tgt := 66) dX7_as_56 (by decide) ?_
  refine x_ri (pc := 66) dX7_as_66 rfl rfl ?_
  exact ⟨rfl, rfl⟩
theorem c_X7_as_d {d : Nat} {w : mW} {k : Int32} {b nb : Nat} (hS0 : Shape w) (tb : (fld w 7 0).toInt = (nb : Int)) (hnb : nb ≤ 5) (hb : b < nb) (hk : 0 ≤ k ∧ k ≤ 2) (hk2 : ¬ k ≤ arr w 8 b) : mC (d + 1) kX7_as [.ref 0, .int (nI b), .int k] w (fun r w' => r = some (.int (-12)) ∧ w' = setF w 0 8 2) := by
  have tk : (nI b).toInt = (b : Int) := nI_toInt (by omega)
  have hS := hS0
  refine mC.of (L := [_, _, _]) okX7_as 0 rfl rfl ?_
  refine x_aload_n (pc := 0) (i := 0) dX7_as_0 rfl rfl ?_
  refine x_iconst (pc := 1) (v := 0) dX7_as_1 (by decide) ?_
  refine x_putI (pc := 2) hS fX7_64 dX7_as_2 rfl rfl rfl rfl (fun hS => ?_)
  refine x_aload_n (pc := 5) (i := 0) dX7_as_5 rfl rfl ?_
  refine x_getR (pc := 6) hS fX7_28 dX7_as_6 rfl rfl ?_
  refine x_iload_n (pc := 9) (i := 1) dX7_as_9 rfl rfl ?_
  refine x_vs (pc := 10) (As := [_]) rfl hS lX7_100 dX7_as_10 rfl rfl (Nat.le_of_ble_eq_true rfl) (c_X0_hasBarrow_7 hS) ?_
  rintro _ _ ⟨rfl, hq⟩
  obtain rfl := hq.symm
  refine x_pushI ?_
  refine x_if_ne (pc := 13) (tgt := 18) dX7_as_13 (by decide) (fun h13 => ?_) (fun h13 => absurd h13 (by rw [b2_n0, fld_setF_a (by decide)]; exact ⟨by (try simp only [b2_e0, b2_n0, Decidable.not_not] at *) <;> (try simp only [i_lt, i_le, i_eq, not_and, not_or, ne_eq, il_0, il_1, il_2, il_3, il_4, il_5, il_6, il_7, il_8, il_9, il_10, il_14, il_15, il_19, il_20, il_24, il_30, il_31, il_44, il_48, il_49, il_52, il_57, il_59, il_60, il_70, il_99, il_100, il_103, il_108, il_114, il_m1, il_m2, il_m3, il_m4, il_m9, il_m10, il_m100] at *) <;> omega, by (try simp only [b2_e0, b2_n0, Decidable.not_not] at *) <;> (try simp only [i_lt, i_le, i_eq, not_and, not_or, ne_eq, il_0, il_1, il_2, il_3, il_4, il_5, il_6, il_7, il_8, il_9, il_10, il_14, il_15, il_19, il_20, il_24, il_30, il_31, il_44, il_48, il_49, il_52, il_57, il_59, il_60, il_70, il_99, il_100, il_103, il_108, il_114, il_m1, il_m2, il_m3, il_m4, il_m9, il_m10, il_m100] at *) <;> omega⟩))
  refine x_iload_n (pc := 18) (i := 2) dX7_as_18 rfl rfl ?_
  refine x_if_lt (pc := 19) (tgt := 27) dX7_as_19 (by decide) (fun h19 => absurd h19 (by (try simp only [b2_e0, b2_n0, Decidable.not_not] at *) <;> (try simp only [i_lt, i_le, i_eq, not_and, not_or, ne_eq, il_0, il_1, il_2, il_3, il_4, il_5, il_6, il_7, il_8, il_9, il_10, il_14, il_15, il_19, il_20, il_24, il_30, il_31, il_44, il_48, il_49, il_52, il_57, il_59, il_60, il_70, il_99, il_100, il_103, il_108, il_114, il_m1, il_m2, il_m3, il_m4, il_m9, il_m10, il_m100] at *) <;> omega)) (fun h19 => ?_)
  refine x_iload_n (pc := 22) (i := 2) dX7_as_22 rfl rfl ?_
  refine x_iconst (pc := 23) (v := 2) dX7_as_23 (by decide) ?_
  refine x_icmp_le (pc := 24) (tgt := 30) dX7_as_24 (by decide) (fun h24 => ?_) (fun h24 => absurd h24 (by (try simp only [b2_e0, b2_n0, Decidable.not_not] at *) <;> (try simp only [i_lt, i_le, i_eq, not_and, not_or, ne_eq, il_0, il_1, il_2, il_3, il_4, il_5, il_6, il_7, il_8, il_9, il_10, il_14, il_15, il_19, il_20, il_24, il_30, il_31, il_44, il_48, il_49, il_52, il_57, il_59, il_60, il_70, il_99, il_100, il_103, il_108, il_114, il_m1, il_m2, il_m3, il_m4, il_m9, il_m10, il_m100] at *) <;> omega))
  refine x_aload_n (pc := 30) (i := 0) dX7_as_30 rfl rfl ?_
  refine x_getR (pc := 31) hS fX7_28 dX7_as_31 rfl rfl ?_
  refine x_getR (pc := 34) hS fX7_103 dX7_as_34 rfl rfl ?_
  refine x_iload_n (pc := 37) (i := 1) dX7_as_37 rfl rfl ?_
  refine x_aldN (pc := 38) hS dX7_as_38 rfl (by omega) (by decide) ?_
  refine x_iload_n (pc := 39) (i := 2) dX7_as_39 rfl rfl ?_
  refine x_icmp_ge (pc := 40) (tgt := 48) dX7_as_40 (by decide) (fun h40 => absurd h40 (by rw [arr_setF]; exact hk2)) (fun h40 => ?_)
  refine x_aload_n (pc := 43) (i := 0) dX7_as_43 rfl rfl ?_
  refine x_iconst (pc := 44) (v := 2) dX7_as_44 (by decide) ?_
  refine x_putI (pc := 45) hS fX7_64 dX7_as_45 rfl rfl rfl rfl (fun hS => ?_)
  refine x_aload_n (pc := 48) (i := 0) dX7_as_48 rfl rfl ?_
  refine x_getI (pc := 49) hS fX7_64 dX7_as_49 rfl rfl ?_
  rw [setF_setF, fld_setF hS0 rfl rfl]
  refine x_if_ne (pc := 52) (tgt := 59) dX7_as_52 (by decide) (fun h52 => ?_) (fun h52 => absurd h52 (by decide))
  have hS := hS0.stF (a := 0) (k := 8) rfl rfl 2
  refine x_bipush (pc := 59) (v := (-10)) dX7_as_59 (by decide) ?_
  refine x_aload_n (pc := 61) (i := 0) dX7_as_61 rfl rfl ?_
  refine x_getI (pc := 62) hS fX7_64 dX7_as_62 rfl rfl ?_
  refine x_isub (pc := 65) dX7_as_65 ?_
  refine x_ri (pc := 66) dX7_as_66 rfl rfl ?_
  rw [fld_setF hS0 rfl rfl]; exact ⟨rfl, rfl⟩
theorem c_X8_as_a {d : Nat} {w : mW} {b k : Int32} (hS : Shape w) (h : ¬ (0 ≤ b ∧ b < fld w 44 5)) : mC (d + 1) kX8_as [.ref 44, .int b, .int k] w (fun r w' => r = some (.int (-1)) ∧ w' = setF w 44 0 0) := by
  refine mC.of (L := [_, _, _]) okX8_as 0 rfl rfl ?_
  refine x_aload_n (pc := 0) (i := 0) dX8_as_0 rfl rfl ?_
  refine x_iconst (pc := 1) (v := 0) dX8_as_1 (by decide) ?_
  refine x_putI (pc := 2) hS fX8_82 dX8_as_2 rfl rfl rfl rfl (fun hS => ?_)
  refine x_aload_n (pc := 5) (i := 0) dX8_as_5 rfl rfl ?_
  refine x_iload_n (pc := 6) (i := 1) dX8_as_6 rfl rfl ?_
  refine x_vs (pc := 7) (As := [_]) rfl hS lX8_152 dX8_as_7 rfl rfl (Nat.le_of_ble_eq_true rfl) (c_X8_isBarrow hS) ?_
  rintro _ _ ⟨rfl, hq⟩
  obtain rfl := hq.symm
  refine x_pushI ?_
  refine x_if_ne (pc := 10) (tgt := 15) dX8_as_10 (by decide) (fun h10 => absurd h10 (by rw [b2_n0, fld_setF_k (by decide)]; exact h)) (fun h10 => ?_)
  refine x_iconst (pc := 13) (v := (-1)) dX8_as_13 (by decide) ?_
  refine x_ri (pc := 14) dX8_as_14 rfl rfl ?_
  exact ⟨rfl, rfl⟩
theorem c_X8_as_b {d : Nat} {w : mW} {k : Int32} {b nb : Nat} (hS : Shape w) (tb : (fld w 44 5).toInt = (nb : Int)) (hnb : nb ≤ 5) (hb : b < nb) (hk : ¬ (0 ≤ k ∧ k ≤ 2)) : mC (d + 1) kX8_as [.ref 44, .int (nI b), .int k] w (fun r w' => r = some (.int (-2)) ∧ w' = setF w 44 0 0) := by
  have tk : (nI b).toInt = (b : Int) := nI_toInt (by omega)
  refine mC.of (L := [_, _, _]) okX8_as 0 rfl rfl ?_
  refine x_aload_n (pc := 0) (i := 0) dX8_as_0 rfl rfl ?_
  refine x_iconst (pc := 1) (v := 0) dX8_as_1 (by decide) ?_
  refine x_putI (pc := 2) hS fX8_82 dX8_as_2 rfl rfl rfl rfl (fun hS => ?_)
  refine x_aload_n (pc := 5) (i := 0) dX8_as_5 rfl rfl ?_
  refine x_iload_n (pc := 6) (i := 1) dX8_as_6 rfl rfl ?_
  refine x_vs (pc := 7) (As := [_]) rfl hS lX8_152 dX8_as_7 rfl rfl (Nat.le_of_ble_eq_true rfl) (c_X8_isBarrow hS) ?_
  rintro _ _ ⟨rfl, hq⟩
  obtain rfl := hq.symm
  refine x_pushI ?_
  refine x_if_ne (pc := 10) (tgt := 15) dX8_as_10 (by decide) (fun h10 => ?_) (fun h10 => absurd h10 (by rw [b2_n0, fld_setF_k (by decide)]; exact ⟨by (try simp only [b2_e0, b2_n0, Decidable.not_not] at *) <;> (try simp only [i_lt, i_le, i_eq, not_and, not_or, ne_eq, il_0, il_1, il_2, il_3, il_4, il_5, il_6, il_7, il_8, il_9, il_10, il_14, il_15, il_19, il_20, il_24, il_30, il_31, il_44, il_48, il_49, il_52, il_57, il_59, il_60, il_70, il_99, il_100, il_103, il_108, il_114, il_m1, il_m2, il_m3, il_m4, il_m9, il_m10, il_m100] at *) <;> omega, by (try simp only [b2_e0, b2_n0, Decidable.not_not] at *) <;> (try simp only [i_lt, i_le, i_eq, not_and, not_or, ne_eq, il_0, il_1, il_2, il_3, il_4, il_5, il_6, il_7, il_8, il_9, il_10, il_14, il_15, il_19, il_20, il_24, il_30, il_31, il_44, il_48, il_49, il_52, il_57, il_59, il_60, il_70, il_99, il_100, il_103, il_108, il_114, il_m1, il_m2, il_m3, il_m4, il_m9, il_m10, il_m100] at *) <;> omega⟩))
  refine x_iload_n (pc := 15) (i := 2) dX8_as_15 rfl rfl ?_
  refine x_iconst (pc := 16) (v := 0) dX8_as_16 (by decide) ?_
  refine x_iconst (pc := 17) (v := 2) dX8_as_17 (by decide) ?_
  refine x_ss (pc := 18) (As := [_, _, _]) rfl lX8_88 dX8_as_18 rfl (Nat.le_of_ble_eq_true rfl) c_X8_within ?_
  rintro _ _ ⟨rfl, hq⟩
  obtain rfl := hq.symm
  refine x_pushI ?_
  refine x_if_ne (pc := 21) (tgt := 27) dX8_as_21 (by decide) (fun h21 => absurd h21 (by rw [b2_n0]; exact hk)) (fun h21 => ?_)
  refine x_bipush (pc := 24) (v := (-2)) dX8_as_24 (by decide) ?_
  refine x_ri (pc := 26) dX8_as_26 rfl rfl ?_
  exact ⟨rfl, rfl⟩
theorem c_X8_as_c {d : Nat} {w : mW} {k : Int32} {b nb : Nat} (hS : Shape w) (tb : (fld w 44 5).toInt = (nb : Int)) (hnb : nb ≤ 5) (hb : b < nb) (hk : 0 ≤ k ∧ k ≤ 2) : mC (d + 1) kX8_as [.ref 44, .int (nI b), .int k] w (fun r w' => r = some (.int (if k ≤ arr w 48 b then 1 else -12)) ∧ w' = setF w 44 0 (if k ≤ arr w 48 b then 0 else 2)) := by
  have tk : (nI b).toInt = (b : Int) := nI_toInt (by omega)
  refine mC.of (L := [_, _, _]) okX8_as 0 rfl rfl ?_
  refine x_aload_n (pc := 0) (i := 0) dX8_as_0 rfl rfl ?_
  refine x_iconst (pc := 1) (v := 0) dX8_as_1 (by decide) ?_
  refine x_putI (pc := 2) hS fX8_82 dX8_as_2 rfl rfl rfl rfl (fun hS => ?_)
  refine x_aload_n (pc := 5) (i := 0) dX8_as_5 rfl rfl ?_
  refine x_iload_n (pc := 6) (i := 1) dX8_as_6 rfl rfl ?_
  refine x_vs (pc := 7) (As := [_]) rfl hS lX8_152 dX8_as_7 rfl rfl (Nat.le_of_ble_eq_true rfl) (c_X8_isBarrow hS) ?_
  rintro _ _ ⟨rfl, hq⟩
  obtain rfl := hq.symm
  refine x_pushI ?_
  refine x_if_ne (pc := 10) (tgt := 15) dX8_as_10 (by decide) (fun h10 => ?_) (fun h10 => absurd h10 (by rw [b2_n0, fld_setF_k (by decide)]; exact ⟨by (try simp only [b2_e0, b2_n0, Decidable.not_not] at *) <;> (try simp only [i_lt, i_le, i_eq, not_and, not_or, ne_eq, il_0, il_1, il_2, il_3, il_4, il_5, il_6, il_7, il_8, il_9, il_10, il_14, il_15, il_19, il_20, il_24, il_30, il_31, il_44, il_48, il_49, il_52, il_57, il_59, il_60, il_70, il_99, il_100, il_103, il_108, il_114, il_m1, il_m2, il_m3, il_m4, il_m9, il_m10, il_m100] at *) <;> omega, by (try simp only [b2_e0, b2_n0, Decidable.not_not] at *) <;> (try simp only [i_lt, i_le, i_eq, not_and, not_or, ne_eq, il_0, il_1, il_2, il_3, il_4, il_5, il_6, il_7, il_8, il_9, il_10, il_14, il_15, il_19, il_20, il_24, il_30, il_31, il_44, il_48, il_49, il_52, il_57, il_59, il_60, il_70, il_99, il_100, il_103, il_108, il_114, il_m1, il_m2, il_m3, il_m4, il_m9, il_m10, il_m100] at *) <;> omega⟩))
  refine x_iload_n (pc := 15) (i := 2) dX8_as_15 rfl rfl ?_
  refine x_iconst (pc := 16) (v := 0) dX8_as_16 (by decide) ?_
  refine x_iconst (pc := 17) (v := 2) dX8_as_17 (by decide) ?_
  refine x_ss (pc := 18) (As := [_, _, _]) rfl lX8_88 dX8_as_18 rfl (Nat.le_of_ble_eq_true rfl) c_X8_within ?_
  rintro _ _ ⟨rfl, hq⟩
  obtain rfl := hq.symm
  refine x_pushI ?_
  refine x_if_ne (pc := 21) (tgt := 27) dX8_as_21 (by decide) (fun h21 => ?_) (fun h21 => absurd h21 (by rw [b2_n0]; exact hk))
  refine x_aload_n (pc := 27) (i := 0) dX8_as_27 rfl rfl ?_
  refine x_getR (pc := 28) hS fX8_19 dX8_as_28 rfl rfl ?_
  refine x_iload_n (pc := 31) (i := 1) dX8_as_31 rfl rfl ?_
  refine x_aldN (pc := 32) hS dX8_as_32 rfl (by omega) (by decide) ?_
  refine x_iload_n (pc := 33) (i := 2) dX8_as_33 rfl rfl ?_
  refine x_icmp_lt (pc := 34) (tgt := 41) dX8_as_34 (by decide) (fun h34 => ?_) (fun h34 => ?_)
  · rw [if_neg (c := k ≤ arr w 48 b) (by rw [arr_setF] at h34; (try simp only [b2_e0, b2_n0, Decidable.not_not] at *) <;> (try simp only [i_lt, i_le, i_eq, not_and, not_or, ne_eq, il_0, il_1, il_2, il_3, il_4, il_5, il_6, il_7, il_8, il_9, il_10, il_14, il_15, il_19, il_20, il_24, il_30, il_31, il_44, il_48, il_49, il_52, il_57, il_59, il_60, il_70, il_99, il_100, il_103, il_108, il_114, il_m1, il_m2, il_m3, il_m4, il_m9, il_m10, il_m100] at *) <;> omega), if_neg (c := k ≤ arr w 48 b) (by rw [arr_setF] at h34; (try simp only [b2_e0, b2_n0, Decidable.not_not] at *) <;> (try simp only [i_lt, i_le, i_eq, not_and, not_or, ne_eq, il_0, il_1, il_2, il_3, il_4, il_5, il_6, il_7, il_8, il_9, il_10, il_14, il_15, il_19, il_20, il_24, il_30, il_31, il_44, il_48, il_49, il_52, il_57, il_59, il_60, il_70, il_99, il_100, il_103, il_108, il_114, il_m1, il_m2, il_m3, il_m4, il_m9, il_m10, il_m100] at *) <;> omega)]
    refine x_aload_n (pc := 41) (i := 0) dX8_as_41 rfl rfl ?_
    refine x_iconst (pc := 42) (v := 2) dX8_as_42 (by decide) ?_
    refine x_vs (pc := 43) (As := [_]) rfl hS lX8_112 dX8_as_43 rfl rfl (Nat.le_of_ble_eq_true rfl) (c_X8_fails hS) ?_
    rintro _ _ ⟨rfl, hq⟩
    obtain rfl := hq.symm
    refine x_pushI ?_
    refine x_ri (pc := 46) dX8_as_46 rfl rfl ?_
    first | exact ⟨rfl, rfl⟩ | exact ⟨rfl, by rw [setF_setF]⟩
  · rw [if_pos (c := k ≤ arr w 48 b) (by rw [arr_setF] at h34; (try simp only [b2_e0, b2_n0, Decidable.not_not] at *) <;> (try simp only [i_lt, i_le, i_eq, not_and, not_or, ne_eq, il_0, il_1, il_2, il_3, il_4, il_5, il_6, il_7, il_8, il_9, il_10, il_14, il_15, il_19, il_20, il_24, il_30, il_31, il_44, il_48, il_49, il_52, il_57, il_59, il_60, il_70, il_99, il_100, il_103, il_108, il_114, il_m1, il_m2, il_m3, il_m4, il_m9, il_m10, il_m100] at *) <;> omega), if_pos (c := k ≤ arr w 48 b) (by rw [arr_setF] at h34; (try simp only [b2_e0, b2_n0, Decidable.not_not] at *) <;> (try simp only [i_lt, i_le, i_eq, not_and, not_or, ne_eq, il_0, il_1, il_2, il_3, il_4, il_5, il_6, il_7, il_8, il_9, il_10, il_14, il_15, il_19, il_20, il_24, il_30, il_31, il_44, il_48, il_49, il_52, il_57, il_59, il_60, il_70, il_99, il_100, il_103, il_108, il_114, il_m1, il_m2, il_m3, il_m4, il_m9, il_m10, il_m100] at *) <;> omega)]
    refine x_iconst (pc := 37) (v := 1) dX8_as_37 (by decide) ?_
    refine x_goto (pc := 38) (tgt := 46) dX8_as_38 (by decide) ?_
    refine x_ri (pc := 46) dX8_as_46 rfl rfl ?_
    first | exact ⟨rfl, rfl⟩ | exact ⟨rfl, by rw [setF_setF]⟩
/-- the fault of both is put the same -/
theorem Inv.fault {w w1 w2 : mW} {x : Int32} (hI : Inv w) (hq : w1 = setF w 0 8 x) (hq2 : w2 = setF w1 44 0 x) : Inv w2 := by
  obtain ⟨hS, nb, nw, nr, hD, hR, hSI, hT⟩ := id hI; obtain ⟨h1, h2, h3, tb, tw, hB, hW, ⟨e1, e2, e3⟩, f8, f9, f10, f11, f12, f13, f14, f15, f16⟩ := id hD
  have hS1 : Shape w1 := by rw [hq]; exact hS.stF rfl rfl _
  have hS2 : Shape w2 := by rw [hq2]; exact hS1.stF rfl rfl _
  have g1 : Gr [] [(0, 8), (44, 0)] w w1 := by rw [hq]; exact Gr.rf.stF (by decide) _
  have g : Gr [] [(0, 8), (44, 0)] w w2 := by rw [hq2]; exact g1.stF (by decide) _
  refine ⟨hS2, nb, nw, nr, hD.gr g (by decide) (by decide), hR.gr g (by decide) (by decide), hSI.gr g (by decide), ?_, ?_⟩
  · rw [hq2, fld_setF hS1 rfl rfl, fld_setF_a (by decide), hq, fld_setF hS rfl rfl]
  · rw [g.2 44 1 (by decide), g.2 0 7 (by decide)]; exact hT.2
theorem both_as {w : mW} (hI : Inv w) (b k : Int32) : Both kX7_as kX8_as [.int b, .int k] w := by
  intro d
  obtain ⟨hS, nb, nw, nr, hD, hR, hSI, hT⟩ := id hI; obtain ⟨h1, h2, h3, tb, tw, hB, hW, ⟨e1, e2, e3⟩, f8, f9, f10, f11, f12, f13, f14, f15, f16⟩ := id hD
  have g1 : ∀ x, Gr [] [(0, 8)] w (setF w 0 8 x) := fun x => Gr.rf.stF (by decide) _
  have hS1 : ∀ x, Shape (setF w 0 8 x) := fun x => hS.stF rfl rfl _
  by_cases hb : 0 ≤ b ∧ b < fld w 7 0
  · obtain ⟨j, hj, rfl⟩ := in_nI tb (by omega) hb
    by_cases hk : 0 ≤ k ∧ k ≤ 2
    · by_cases hk2 : k ≤ arr w 8 j
      · refine mC.mono (c_X7_as_c (d := d + 19) hS tb h1 hj hk hk2) ?_
        rintro _ w1 ⟨rfl, hq⟩
        subst hq
        refine mC.mono (c_X8_as_c (d := d + 19) (hS1 _) (by rw [(g1 _).2 44 5 (by decide), e1]; exact tb) h1 hj hk) ?_
        rw [(g1 _).1 48 (by decide), f8, if_pos hk2, if_pos hk2]
        rintro _ w2 ⟨rfl, hq⟩
        exact ⟨rfl, hI.fault rfl hq⟩
      · refine mC.mono (c_X7_as_d (d := d + 19) hS tb h1 hj hk hk2) ?_
        rintro _ w1 ⟨rfl, hq⟩
        subst hq
        refine mC.mono (c_X8_as_c (d := d + 19) (hS1 _) (by rw [(g1 _).2 44 5 (by decide), e1]; exact tb) h1 hj hk) ?_
        rw [(g1 _).1 48 (by decide), f8, if_neg hk2, if_neg hk2]
        rintro _ w2 ⟨rfl, hq⟩
        exact ⟨rfl, hI.fault rfl hq⟩
    · refine mC.mono (c_X7_as_b (d := d + 19) hS tb h1 hj hk) ?_
      rintro _ w1 ⟨rfl, hq⟩
      subst hq
      refine mC.mono (c_X8_as_b (d := d + 19) (hS1 _) (by rw [(g1 _).2 44 5 (by decide), e1]; exact tb) h1 hj hk) ?_
      rintro _ w2 ⟨rfl, hq⟩
      exact ⟨rfl, hI.fault rfl hq⟩
  · refine mC.mono (c_X7_as_a (d := d + 19) hS hb) ?_
    rintro _ w1 ⟨rfl, hq⟩
    subst hq
    refine mC.mono (c_X8_as_a (d := d + 19) (hS1 _) (by rw [(g1 _).2 44 5 (by decide), e1]; exact hb)) ?_
    rintro _ w2 ⟨rfl, hq⟩
    exact ⟨rfl, hI.fault rfl hq⟩

