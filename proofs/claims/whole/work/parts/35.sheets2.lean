-- sheet, lose, put, cell: the class
theorem notIn {k : Int32} (h : ¬ (0 ≤ k ∧ k < 4)) : ¬ (0 ≤ k ∧ k ≤ 3) := by (try simp only [b2_e0, b2_n0, Decidable.not_not] at *) <;> (try simp only [i_lt, i_le, i_eq, not_and, not_or, ne_eq, il_0, il_1, il_2, il_3, il_4, il_5, il_6, il_7, il_8, il_9, il_10, il_14, il_15, il_19, il_20, il_24, il_30, il_31, il_44, il_48, il_49, il_52, il_57, il_59, il_60, il_70, il_99, il_100, il_103, il_108, il_114, il_m1, il_m2, il_m3, il_m4, il_m9, il_m10, il_m100] at *) <;> omega
theorem c_X7_sheet_a {d : Nat} {w : mW} {k l n : Int32} (hS : Shape w) (h : ¬ (0 ≤ k ∧ k < 4)) : mC (d + 2) kX7_sheet [.ref 0, .int k, .int l, .int n] w (fun r w' => r = some (.int (-1)) ∧ w' = setF w 0 8 0) := by
  refine mC.of (L := [_, _, _, _]) okX7_sheet 0 rfl rfl ?_
  refine x_aload_n (pc := 0) (i := 0) dX7_sheet_0 rfl rfl ?_
  refine x_iconst (pc := 1) (v := 0) dX7_sheet_1 (by decide) ?_
  refine x_putI (pc := 2) hS fX7_64 dX7_sheet_2 rfl rfl rfl rfl (fun hS => ?_)
  refine x_iload_n (pc := 5) (i := 1) dX7_sheet_5 rfl rfl ?_
  refine x_ss (pc := 6) (As := [_]) rfl lX7_67 dX7_sheet_6 rfl (Nat.le_of_ble_eq_true rfl) c_X5_isSheet ?_
  rintro _ _ ⟨rfl, hq⟩
  obtain rfl := hq.symm
  refine x_pushI ?_
  refine x_if_ne (pc := 9) (tgt := 14) dX7_sheet_9 (by decide) (fun h9 => absurd h9 (by rw [b2_n0]; exact h)) (fun h9 => ?_)
  refine x_iconst (pc := 12) (v := (-1)) dX7_sheet_12 (by decide) ?_
  refine x_ri (pc := 13) dX7_sheet_13 rfl rfl ?_
  exact ⟨rfl, rfl⟩
theorem c_X7_sheet_b {d : Nat} {w : mW} {l n : Int32} {k : Nat} (hS : Shape w) (hk : k < 4) (h : ¬ ((0 ≤ l ∧ l ≤ 2) ∧ n ≤ 60)) : mC (d + 2) kX7_sheet [.ref 0, .int (nI k), .int l, .int n] w (fun r w' => r = some (.int (-2)) ∧ w' = setF w 0 8 0) := by
  refine mC.of (L := [_, _, _, _]) okX7_sheet 0 rfl rfl ?_
  refine x_aload_n (pc := 0) (i := 0) dX7_sheet_0 rfl rfl ?_
  refine x_iconst (pc := 1) (v := 0) dX7_sheet_1 (by decide) ?_
  refine x_putI (pc := 2) hS fX7_64 dX7_sheet_2 rfl rfl rfl rfl (fun hS => ?_)
  refine x_iload_n (pc := 5) (i := 1) dX7_sheet_5 rfl rfl ?_
  refine x_ss (pc := 6) (As := [_]) rfl lX7_67 dX7_sheet_6 rfl (Nat.le_of_ble_eq_true rfl) c_X5_isSheet ?_
  rintro _ _ ⟨rfl, hq⟩
  obtain rfl := hq.symm
  refine x_pushI ?_
  refine x_if_ne (pc := 9) (tgt := 14) dX7_sheet_9 (by decide) (fun h9 => ?_) (fun h9 => absurd h9 (by rw [b2_n0]; exact k4 hk))
  refine x_iload_n (pc := 14) (i := 2) dX7_sheet_14 rfl rfl ?_
  refine x_ss (pc := 15) (As := [_]) rfl lX7_71 dX7_sheet_15 rfl (Nat.le_of_ble_eq_true rfl) c_X7_isLane ?_
  rintro _ _ ⟨rfl, hq⟩
  obtain rfl := hq.symm
  refine x_pushI ?_
  refine x_if_eq (pc := 18) (tgt := 27) dX7_sheet_18 (by decide) (fun h18 => ?_) (fun h18 => ?_)
  · refine x_bipush (pc := 27) (v := (-2)) dX7_sheet_27 (by decide) ?_
    refine x_ri (pc := 29) dX7_sheet_29 rfl rfl ?_
    exact ⟨rfl, rfl⟩
  · refine x_iload_n (pc := 21) (i := 3) dX7_sheet_21 rfl rfl ?_
    refine x_bipush (pc := 22) (v := 60) dX7_sheet_22 (by decide) ?_
    refine x_icmp_le (pc := 24) (tgt := 30) dX7_sheet_24 (by decide) (fun h24 => ?_) (fun h24 => ?_)
    · exfalso; (try simp only [b2_e0, b2_n0, Decidable.not_not] at *) <;> (try simp only [i_lt, i_le, i_eq, not_and, not_or, ne_eq, il_0, il_1, il_2, il_3, il_4, il_5, il_6, il_7, il_8, il_9, il_10, il_14, il_15, il_19, il_20, il_24, il_30, il_31, il_44, il_48, il_49, il_52, il_57, il_59, il_60, il_70, il_99, il_100, il_103, il_108, il_114, il_m1, il_m2, il_m3, il_m4, il_m9, il_m10, il_m100] at *) <;> omega
    · refine x_bipush (pc := 27) (v := (-2)) dX7_sheet_27 (by decide) ?_
      refine x_ri (pc := 29) dX7_sheet_29 rfl rfl ?_
      exact ⟨rfl, rfl⟩
theorem c_X7_sheet_c {d : Nat} {w : mW} {l n : Int32} {k : Nat} (hS0 : Shape w) (hk : k < 4) (h : (0 ≤ l ∧ l ≤ 2) ∧ n ≤ 60) (hn : n < 0) : mC (d + 2) kX7_sheet [.ref 0, .int (nI k), .int l, .int n] w (fun r w' => r = some (.int (-14)) ∧ w' = setF w 0 8 4) := by
  have hS := hS0
  refine mC.of (L := [_, _, _, _]) okX7_sheet 0 rfl rfl ?_
  refine x_aload_n (pc := 0) (i := 0) dX7_sheet_0 rfl rfl ?_
  refine x_iconst (pc := 1) (v := 0) dX7_sheet_1 (by decide) ?_
  refine x_putI (pc := 2) hS fX7_64 dX7_sheet_2 rfl rfl rfl rfl (fun hS => ?_)
  refine x_iload_n (pc := 5) (i := 1) dX7_sheet_5 rfl rfl ?_
  refine x_ss (pc := 6) (As := [_]) rfl lX7_67 dX7_sheet_6 rfl (Nat.le_of_ble_eq_true rfl) c_X5_isSheet ?_
  rintro _ _ ⟨rfl, hq⟩
  obtain rfl := hq.symm
  refine x_pushI ?_
  refine x_if_ne (pc := 9) (tgt := 14) dX7_sheet_9 (by decide) (fun h9 => ?_) (fun h9 => absurd h9 (by rw [b2_n0]; exact k4 hk))
  refine x_iload_n (pc := 14) (i := 2) dX7_sheet_14 rfl rfl ?_
  refine x_ss (pc := 15) (As := [_]) rfl lX7_71 dX7_sheet_15 rfl (Nat.le_of_ble_eq_true rfl) c_X7_isLane ?_
  rintro _ _ ⟨rfl, hq⟩
  obtain rfl := hq.symm
  refine x_pushI ?_
  refine x_if_eq (pc := 18) (tgt := 27) dX7_sheet_18 (by decide) (fun h18 => absurd h18 (by rw [b2_e0]; exact not_not_intro h.1)) (fun h18 => ?_)
  refine x_iload_n (pc := 21) (i := 3) dX7_sheet_21 rfl rfl ?_
  refine x_bipush (pc := 22) (v := 60) dX7_sheet_22 (by decide) ?_
  refine x_icmp_le (pc := 24) (tgt := 30) dX7_sheet_24 (by decide) (fun h24 => ?_) (fun h24 => absurd h24 (by exact not_not_intro h.2))
  refine x_iload_n (pc := 30) (i := 3) dX7_sheet_30 rfl rfl ?_
  refine x_if_ge (pc := 31) (tgt := 39) dX7_sheet_31 (by decide) (fun h31 => absurd h31 (by (try simp only [b2_e0, b2_n0, Decidable.not_not] at *) <;> (try simp only [i_lt, i_le, i_eq, not_and, not_or, ne_eq, il_0, il_1, il_2, il_3, il_4, il_5, il_6, il_7, il_8, il_9, il_10, il_14, il_15, il_19, il_20, il_24, il_30, il_31, il_44, il_48, il_49, il_52, il_57, il_59, il_60, il_70, il_99, il_100, il_103, il_108, il_114, il_m1, il_m2, il_m3, il_m4, il_m9, il_m10, il_m100] at *) <;> omega)) (fun h31 => ?_)
  refine x_aload_n (pc := 34) (i := 0) dX7_sheet_34 rfl rfl ?_
  refine x_iconst (pc := 35) (v := 4) dX7_sheet_35 (by decide) ?_
  refine x_putI (pc := 36) hS fX7_64 dX7_sheet_36 rfl rfl rfl rfl (fun hS => ?_)
  rw [setF_setF]
  have hS := hS0.stF (a := 0) (k := 8) rfl rfl 4
  refine x_aload_n (pc := 39) (i := 0) dX7_sheet_39 rfl rfl ?_
  refine x_getI (pc := 40) hS fX7_64 dX7_sheet_40 rfl rfl ?_
  rw [fld_setF hS0 rfl rfl]
  refine x_if_eq (pc := 43) (tgt := 54) dX7_sheet_43 (by decide) (fun h43 => absurd h43 (by decide)) (fun h43 => ?_)
  refine x_bipush (pc := 46) (v := (-10)) dX7_sheet_46 (by decide) ?_
  refine x_aload_n (pc := 48) (i := 0) dX7_sheet_48 rfl rfl ?_
  refine x_getI (pc := 49) hS fX7_64 dX7_sheet_49 rfl rfl ?_
  refine x_isub (pc := 52) dX7_sheet_52 ?_
  refine x_ri (pc := 53) dX7_sheet_53 rfl rfl ?_
  rw [fld_setF hS0 rfl rfl]; exact ⟨rfl, rfl⟩
theorem c_X7_sheet_d {d : Nat} {w : mW} {l : Int32} {k n : Nat} (hS0 : Shape w) (hk : k < 4) (h : 0 ≤ l ∧ l ≤ 2) (hn : n ≤ 60) : mC (d + 2) kX7_sheet [.ref 0, .int (nI k), .int l, .int (nI n)] w (fun r w' => r = some (.int 1) ∧ w' = setA (setA (setA (setF w 0 8 0) 2 (upd (arr w 2) k l)) 3 (upd (arr w 3) k (nI n))) 4 (zer (arr w 4) (60 * k) n)) := by
  have tn : (nI n).toInt = (n : Int) := nI_toInt (by omega)
  have hS := hS0
  have e2 : ∀ a, arr (setF w 0 8 0) a = arr w a := fun a => arr_setF 0
  simp only [← e2]
  refine mC.of (L := [_, _, _, _]) okX7_sheet 0 rfl rfl ?_
  refine x_aload_n (pc := 0) (i := 0) dX7_sheet_0 rfl rfl ?_
  refine x_iconst (pc := 1) (v := 0) dX7_sheet_1 (by decide) ?_
  refine x_putI (pc := 2) hS fX7_64 dX7_sheet_2 rfl rfl rfl rfl (fun hS => ?_)
  refine x_iload_n (pc := 5) (i := 1) dX7_sheet_5 rfl rfl ?_
  refine x_ss (pc := 6) (As := [_]) rfl lX7_67 dX7_sheet_6 rfl (Nat.le_of_ble_eq_true rfl) c_X5_isSheet ?_
  rintro _ _ ⟨rfl, hq⟩
  obtain rfl := hq.symm
  refine x_pushI ?_
  refine x_if_ne (pc := 9) (tgt := 14) dX7_sheet_9 (by decide) (fun h9 => ?_) (fun h9 => absurd h9 (by rw [b2_n0]; exact k4 hk))
  refine x_iload_n (pc := 14) (i := 2) dX7_sheet_14 rfl rfl ?_
  refine x_ss (pc := 15) (As := [_]) rfl lX7_71 dX7_sheet_15 rfl (Nat.le_of_ble_eq_true rfl) c_X7_isLane ?_
  rintro _ _ ⟨rfl, hq⟩
  obtain rfl := hq.symm
  refine x_pushI ?_
  refine x_if_eq (pc := 18) (tgt := 27) dX7_sheet_18 (by decide) (fun h18 => absurd h18 (by rw [b2_e0]; exact not_not_intro h)) (fun h18 => ?_)
  refine x_iload_n (pc := 21) (i := 3) dX7_sheet_21 rfl rfl ?_
  refine x_bipush (pc := 22) (v := 60) dX7_sheet_22 (by decide) ?_
  refine x_icmp_le (pc := 24) (tgt := 30) dX7_sheet_24 (by decide) (fun h24 => ?_) (fun h24 => absurd h24 (by (try simp only [b2_e0, b2_n0, Decidable.not_not] at *) <;> (try simp only [i_lt, i_le, i_eq, not_and, not_or, ne_eq, il_0, il_1, il_2, il_3, il_4, il_5, il_6, il_7, il_8, il_9, il_10, il_14, il_15, il_19, il_20, il_24, il_30, il_31, il_44, il_48, il_49, il_52, il_57, il_59, il_60, il_70, il_99, il_100, il_103, il_108, il_114, il_m1, il_m2, il_m3, il_m4, il_m9, il_m10, il_m100] at *) <;> omega))
  refine x_iload_n (pc := 30) (i := 3) dX7_sheet_30 rfl rfl ?_
  refine x_if_ge (pc := 31) (tgt := 39) dX7_sheet_31 (by decide) (fun h31 => ?_) (fun h31 => absurd h31 (by (try simp only [b2_e0, b2_n0, Decidable.not_not] at *) <;> (try simp only [i_lt, i_le, i_eq, not_and, not_or, ne_eq, il_0, il_1, il_2, il_3, il_4, il_5, il_6, il_7, il_8, il_9, il_10, il_14, il_15, il_19, il_20, il_24, il_30, il_31, il_44, il_48, il_49, il_52, il_57, il_59, il_60, il_70, il_99, il_100, il_103, il_108, il_114, il_m1, il_m2, il_m3, il_m4, il_m9, il_m10, il_m100] at *) <;> omega))
  refine x_aload_n (pc := 39) (i := 0) dX7_sheet_39 rfl rfl ?_
  refine x_getI (pc := 40) hS fX7_64 dX7_sheet_40 rfl rfl ?_
  rw [fld_setF hS0 rfl rfl]
  refine x_if_eq (pc := 43) (tgt := 54) dX7_sheet_43 (by decide) (fun h43 => ?_) (fun h43 => absurd h43 (by exact not_not_intro rfl))
  refine x_aload_n (pc := 54) (i := 0) dX7_sheet_54 rfl rfl ?_
  refine x_getR (pc := 55) hS fX7_12 dX7_sheet_55 rfl rfl ?_
  refine x_iload_n (pc := 58) (i := 1) dX7_sheet_58 rfl rfl ?_
  refine x_iload_n (pc := 59) (i := 2) dX7_sheet_59 rfl rfl ?_
  refine x_iload_n (pc := 60) (i := 3) dX7_sheet_60 rfl rfl ?_
  refine x_vs (pc := 61) (As := [_, _, _]) rfl hS lX7_231 dX7_sheet_61 rfl rfl (Nat.le_of_ble_eq_true rfl) (c_X5_renew hS hk hn) ?_
  rintro _ _ ⟨rfl, hq⟩
  obtain rfl := hq.symm
  refine x_pushV ?_
  refine x_iconst (pc := 64) (v := 1) dX7_sheet_64 (by decide) ?_
  refine x_ri (pc := 65) dX7_sheet_65 rfl rfl ?_
  exact ⟨rfl, rfl⟩
theorem c_X7_lose_a {d : Nat} {w : mW} {k : Int32} (hS : Shape w) (h : ¬ (0 ≤ k ∧ k < 4)) : mC (d + 2) kX7_lose [.ref 0, .int k] w (fun r w' => r = some (.int (-1)) ∧ w' = w) := by
  refine mC.of (L := [_, _]) okX7_lose 0 rfl rfl ?_
  refine x_iload_n (pc := 0) (i := 1) dX7_lose_0 rfl rfl ?_
  refine x_ss (pc := 1) (As := [_]) rfl lX7_67 dX7_lose_1 rfl (Nat.le_of_ble_eq_true rfl) c_X5_isSheet ?_
  rintro _ _ ⟨rfl, hq⟩
  obtain rfl := hq.symm
  refine x_pushI ?_
  refine x_if_ne (pc := 4) (tgt := 9) dX7_lose_4 (by decide) (fun h4 => absurd h4 (by rw [b2_n0]; exact h)) (fun h4 => ?_)
  refine x_iconst (pc := 7) (v := (-1)) dX7_lose_7 (by decide) ?_
  refine x_ri (pc := 8) dX7_lose_8 rfl rfl ?_
  exact ⟨rfl, rfl⟩
theorem c_X7_lose_b {d : Nat} {w : mW} {k : Nat} (hS : Shape w) (hk : k < 4) (h : arr w 2 k = -1) : mC (d + 2) kX7_lose [.ref 0, .int (nI k)] w (fun r w' => r = some (.int 0) ∧ w' = w) := by
  refine mC.of (L := [_, _]) okX7_lose 0 rfl rfl ?_
  refine x_iload_n (pc := 0) (i := 1) dX7_lose_0 rfl rfl ?_
  refine x_ss (pc := 1) (As := [_]) rfl lX7_67 dX7_lose_1 rfl (Nat.le_of_ble_eq_true rfl) c_X5_isSheet ?_
  rintro _ _ ⟨rfl, hq⟩
  obtain rfl := hq.symm
  refine x_pushI ?_
  refine x_if_ne (pc := 4) (tgt := 9) dX7_lose_4 (by decide) (fun h4 => ?_) (fun h4 => absurd h4 (by rw [b2_n0]; exact k4 hk))
  refine x_aload_n (pc := 9) (i := 0) dX7_lose_9 rfl rfl ?_
  refine x_getR (pc := 10) hS fX7_12 dX7_lose_10 rfl rfl ?_
  refine x_iload_n (pc := 13) (i := 1) dX7_lose_13 rfl rfl ?_
  refine x_vs (pc := 14) (As := [_]) rfl hS lX7_235 dX7_lose_14 rfl rfl (Nat.le_of_ble_eq_true rfl) (c_hasN hS hk) ?_
  rintro _ _ ⟨rfl, hq⟩
  obtain rfl := hq.symm
  refine x_pushI ?_
  refine x_if_eq (pc := 17) (tgt := 22) dX7_lose_17 (by decide) (fun h17 => absurd h17 (by rw [b2_e0]; exact not_not_intro h)) (fun h17 => ?_)
  refine x_iconst (pc := 20) (v := 0) dX7_lose_20 (by decide) ?_
  refine x_ri (pc := 21) dX7_lose_21 rfl rfl ?_
  exact ⟨rfl, rfl⟩
theorem c_X7_lose_c {d : Nat} {w : mW} {k : Nat} (hS : Shape w) (hk : k < 4) (h : ¬ arr w 2 k = -1) : mC (d + 2) kX7_lose [.ref 0, .int (nI k)] w (fun r w' => r = some (.int 1) ∧ w' = setA (setA w 2 (upd (arr w 2) k (-1))) 3 (upd (arr w 3) k 0)) := by
  refine mC.of (L := [_, _]) okX7_lose 0 rfl rfl ?_
  refine x_iload_n (pc := 0) (i := 1) dX7_lose_0 rfl rfl ?_
  refine x_ss (pc := 1) (As := [_]) rfl lX7_67 dX7_lose_1 rfl (Nat.le_of_ble_eq_true rfl) c_X5_isSheet ?_
  rintro _ _ ⟨rfl, hq⟩
  obtain rfl := hq.symm
  refine x_pushI ?_
  refine x_if_ne (pc := 4) (tgt := 9) dX7_lose_4 (by decide) (fun h4 => ?_) (fun h4 => absurd h4 (by rw [b2_n0]; exact k4 hk))
  refine x_aload_n (pc := 9) (i := 0) dX7_lose_9 rfl rfl ?_
  refine x_getR (pc := 10) hS fX7_12 dX7_lose_10 rfl rfl ?_
  refine x_iload_n (pc := 13) (i := 1) dX7_lose_13 rfl rfl ?_
  refine x_vs (pc := 14) (As := [_]) rfl hS lX7_235 dX7_lose_14 rfl rfl (Nat.le_of_ble_eq_true rfl) (c_hasN hS hk) ?_
  rintro _ _ ⟨rfl, hq⟩
  obtain rfl := hq.symm
  refine x_pushI ?_
  refine x_if_eq (pc := 17) (tgt := 22) dX7_lose_17 (by decide) (fun h17 => ?_) (fun h17 => absurd h17 (by rw [b2_n0]; exact h))
  refine x_aload_n (pc := 22) (i := 0) dX7_lose_22 rfl rfl ?_
  refine x_getR (pc := 23) hS fX7_12 dX7_lose_23 rfl rfl ?_
  refine x_iload_n (pc := 26) (i := 1) dX7_lose_26 rfl rfl ?_
  refine x_vs (pc := 27) (As := [_]) rfl hS lX7_238 dX7_lose_27 rfl rfl (Nat.le_of_ble_eq_true rfl) (c_X5_empty hS hk) ?_
  rintro _ _ ⟨rfl, hq⟩
  obtain rfl := hq.symm
  refine x_pushV ?_
  refine x_iconst (pc := 30) (v := 1) dX7_lose_30 (by decide) ?_
  refine x_ri (pc := 31) dX7_lose_31 rfl rfl ?_
  exact ⟨rfl, rfl⟩
theorem c_X7_put_a {d : Nat} {w : mW} {k i v : Int32} (hS : Shape w) (h : ¬ (0 ≤ k ∧ k < 4)) : mC (d + 2) kX7_put [.ref 0, .int k, .int i, .int v] w (fun r w' => r = some (.int (-1)) ∧ w' = setF w 0 8 0) := by
  refine mC.of (L := [_, _, _, _]) okX7_put 0 rfl rfl ?_
  refine x_aload_n (pc := 0) (i := 0) dX7_put_0 rfl rfl ?_
  refine x_iconst (pc := 1) (v := 0) dX7_put_1 (by decide) ?_
  refine x_putI (pc := 2) hS fX7_64 dX7_put_2 rfl rfl rfl rfl (fun hS => ?_)
  refine x_iload_n (pc := 5) (i := 1) dX7_put_5 rfl rfl ?_
  refine x_ss (pc := 6) (As := [_]) rfl lX7_67 dX7_put_6 rfl (Nat.le_of_ble_eq_true rfl) c_X5_isSheet ?_
  rintro _ _ ⟨rfl, hq⟩
  obtain rfl := hq.symm
  refine x_pushI ?_
  refine x_if_ne (pc := 9) (tgt := 14) dX7_put_9 (by decide) (fun h9 => absurd h9 (by rw [b2_n0]; exact h)) (fun h9 => ?_)
  refine x_iconst (pc := 12) (v := (-1)) dX7_put_12 (by decide) ?_
  refine x_ri (pc := 13) dX7_put_13 rfl rfl ?_
  exact ⟨rfl, rfl⟩
theorem c_X7_put_b {d : Nat} {w : mW} {i v : Int32} {k : Nat} (hS0 : Shape w) (hk : k < 4) (h : arr w 2 k = -1) : mC (d + 2) kX7_put [.ref 0, .int (nI k), .int i, .int v] w (fun r w' => r = some (.int (-11)) ∧ w' = setF w 0 8 1) := by
  have hS := hS0
  refine mC.of (L := [_, _, _, _]) okX7_put 0 rfl rfl ?_
  refine x_aload_n (pc := 0) (i := 0) dX7_put_0 rfl rfl ?_
  refine x_iconst (pc := 1) (v := 0) dX7_put_1 (by decide) ?_
  refine x_putI (pc := 2) hS fX7_64 dX7_put_2 rfl rfl rfl rfl (fun hS => ?_)
  refine x_iload_n (pc := 5) (i := 1) dX7_put_5 rfl rfl ?_
  refine x_ss (pc := 6) (As := [_]) rfl lX7_67 dX7_put_6 rfl (Nat.le_of_ble_eq_true rfl) c_X5_isSheet ?_
  rintro _ _ ⟨rfl, hq⟩
  obtain rfl := hq.symm
  refine x_pushI ?_
  refine x_if_ne (pc := 9) (tgt := 14) dX7_put_9 (by decide) (fun h9 => ?_) (fun h9 => absurd h9 (by rw [b2_n0]; exact k4 hk))
  refine x_aload_n (pc := 14) (i := 0) dX7_put_14 rfl rfl ?_
  refine x_getR (pc := 15) hS fX7_12 dX7_put_15 rfl rfl ?_
  refine x_iload_n (pc := 18) (i := 1) dX7_put_18 rfl rfl ?_
  refine x_vs (pc := 19) (As := [_]) rfl hS lX7_235 dX7_put_19 rfl rfl (Nat.le_of_ble_eq_true rfl) (c_hasN hS hk) ?_
  rintro _ _ ⟨rfl, hq⟩
  obtain rfl := hq.symm
  refine x_pushI ?_
  refine x_if_eq (pc := 22) (tgt := 30) dX7_put_22 (by decide) (fun h22 => absurd h22 (by rw [b2_e0, arr_setF]; exact not_not_intro h)) (fun h22 => ?_)
  refine x_aload_n (pc := 25) (i := 0) dX7_put_25 rfl rfl ?_
  refine x_iconst (pc := 26) (v := 1) dX7_put_26 (by decide) ?_
  refine x_putI (pc := 27) hS fX7_64 dX7_put_27 rfl rfl rfl rfl (fun hS => ?_)
  rw [setF_setF]
  have hS := hS0.stF (a := 0) (k := 8) rfl rfl 1
  refine x_aload_n (pc := 30) (i := 0) dX7_put_30 rfl rfl ?_
  refine x_getI (pc := 31) hS fX7_64 dX7_put_31 rfl rfl ?_
  rw [fld_setF hS0 rfl rfl]
  refine x_if_ne (pc := 34) (tgt := 50) dX7_put_34 (by decide) (fun h34 => ?_) (fun h34 => absurd h34 (by decide))
  refine x_aload_n (pc := 50) (i := 0) dX7_put_50 rfl rfl ?_
  refine x_getI (pc := 51) hS fX7_64 dX7_put_51 rfl rfl ?_
  rw [fld_setF hS0 rfl rfl]
  refine x_if_eq (pc := 54) (tgt := 65) dX7_put_54 (by decide) (fun h54 => absurd h54 (by decide)) (fun h54 => ?_)
  refine x_bipush (pc := 57) (v := (-10)) dX7_put_57 (by decide) ?_
  refine x_aload_n (pc := 59) (i := 0) dX7_put_59 rfl rfl ?_
  refine x_getI (pc := 60) hS fX7_64 dX7_put_60 rfl rfl ?_
  refine x_isub (pc := 63) dX7_put_63 ?_
  refine x_ri (pc := 64) dX7_put_64 rfl rfl ?_
  rw [fld_setF hS0 rfl rfl]; exact ⟨rfl, rfl⟩
theorem c_X7_put_c {d : Nat} {w : mW} {i v : Int32} {k : Nat} (hS0 : Shape w) (hk : k < 4) (h : ¬ arr w 2 k = -1) (hi : fCell (arr w 3 k) i = 3) : mC (d + 2) kX7_put [.ref 0, .int (nI k), .int i, .int v] w (fun r w' => r = some (.int (-13)) ∧ w' = setF w 0 8 3) := by
  have hS := hS0
  refine mC.of (L := [_, _, _, _]) okX7_put 0 rfl rfl ?_
  refine x_aload_n (pc := 0) (i := 0) dX7_put_0 rfl rfl ?_
  refine x_iconst (pc := 1) (v := 0) dX7_put_1 (by decide) ?_
  refine x_putI (pc := 2) hS fX7_64 dX7_put_2 rfl rfl rfl rfl (fun hS => ?_)
  refine x_iload_n (pc := 5) (i := 1) dX7_put_5 rfl rfl ?_
  refine x_ss (pc := 6) (As := [_]) rfl lX7_67 dX7_put_6 rfl (Nat.le_of_ble_eq_true rfl) c_X5_isSheet ?_
  rintro _ _ ⟨rfl, hq⟩
  obtain rfl := hq.symm
  refine x_pushI ?_
  refine x_if_ne (pc := 9) (tgt := 14) dX7_put_9 (by decide) (fun h9 => ?_) (fun h9 => absurd h9 (by rw [b2_n0]; exact k4 hk))
  refine x_aload_n (pc := 14) (i := 0) dX7_put_14 rfl rfl ?_
  refine x_getR (pc := 15) hS fX7_12 dX7_put_15 rfl rfl ?_
  refine x_iload_n (pc := 18) (i := 1) dX7_put_18 rfl rfl ?_
  refine x_vs (pc := 19) (As := [_]) rfl hS lX7_235 dX7_put_19 rfl rfl (Nat.le_of_ble_eq_true rfl) (c_hasN hS hk) ?_
  rintro _ _ ⟨rfl, hq⟩
  obtain rfl := hq.symm
  refine x_pushI ?_
  refine x_if_eq (pc := 22) (tgt := 30) dX7_put_22 (by decide) (fun h22 => ?_) (fun h22 => absurd h22 (by rw [b2_n0, arr_setF]; exact h))
  refine x_aload_n (pc := 30) (i := 0) dX7_put_30 rfl rfl ?_
  refine x_getI (pc := 31) hS fX7_64 dX7_put_31 rfl rfl ?_
  rw [fld_setF hS0 rfl rfl]
  refine x_if_ne (pc := 34) (tgt := 50) dX7_put_34 (by decide) (fun h34 => absurd h34 (by exact not_not_intro rfl)) (fun h34 => ?_)
  refine x_aload_n (pc := 37) (i := 0) dX7_put_37 rfl rfl ?_
  refine x_aload_n (pc := 38) (i := 0) dX7_put_38 rfl rfl ?_
  refine x_getR (pc := 39) hS fX7_12 dX7_put_39 rfl rfl ?_
  refine x_iload_n (pc := 42) (i := 1) dX7_put_42 rfl rfl ?_
  refine x_iload_n (pc := 43) (i := 2) dX7_put_43 rfl rfl ?_
  refine x_vs (pc := 44) (As := [_, _]) rfl hS lX7_242 dX7_put_44 rfl rfl (Nat.le_of_ble_eq_true rfl) (c_X5_faultOfCell hS hk) ?_
  rintro _ _ ⟨rfl, hq⟩
  obtain rfl := hq.symm
  refine x_pushI ?_
  rw [arr_setF, hi]
  refine x_putI (pc := 47) hS fX7_64 dX7_put_47 rfl rfl rfl rfl (fun hS => ?_)
  rw [setF_setF]
  have hS := hS0.stF (a := 0) (k := 8) rfl rfl 3
  refine x_aload_n (pc := 50) (i := 0) dX7_put_50 rfl rfl ?_
  refine x_getI (pc := 51) hS fX7_64 dX7_put_51 rfl rfl ?_
  rw [fld_setF hS0 rfl rfl]
  refine x_if_eq (pc := 54) (tgt := 65) dX7_put_54 (by decide) (fun h54 => absurd h54 (by decide)) (fun h54 => ?_)
  refine x_bipush (pc := 57) (v := (-10)) dX7_put_57 (by decide) ?_
  refine x_aload_n (pc := 59) (i := 0) dX7_put_59 rfl rfl ?_
  refine x_getI (pc := 60) hS fX7_64 dX7_put_60 rfl rfl ?_
  refine x_isub (pc := 63) dX7_put_63 ?_
  refine x_ri (pc := 64) dX7_put_64 rfl rfl ?_
  rw [fld_setF hS0 rfl rfl]; exact ⟨rfl, rfl⟩
theorem c_X7_put_d {d : Nat} {w : mW} {v : Int32} {k i n : Nat} (hS0 : Shape w) (hk : k < 4) (h : ¬ arr w 2 k = -1) (hsz : arr w 3 k = nI n) (hn : n ≤ 60) (hi : i < n) : mC (d + 3) kX7_put [.ref 0, .int (nI k), .int (nI i), .int v] w (fun r w' => r = some (.int 1) ∧ w' = setA (setF w 0 8 0) 4 (upd (arr w 4) (60 * k + i) (cutE v (arr w 2 k)))) := by
  have hS := hS0
  refine mC.of (L := [_, _, _, _]) okX7_put 0 rfl rfl ?_
  refine x_aload_n (pc := 0) (i := 0) dX7_put_0 rfl rfl ?_
  refine x_iconst (pc := 1) (v := 0) dX7_put_1 (by decide) ?_
  refine x_putI (pc := 2) hS fX7_64 dX7_put_2 rfl rfl rfl rfl (fun hS => ?_)
  refine x_iload_n (pc := 5) (i := 1) dX7_put_5 rfl rfl ?_
  refine x_ss (pc := 6) (As := [_]) rfl lX7_67 dX7_put_6 rfl (Nat.le_of_ble_eq_true rfl) c_X5_isSheet ?_
  rintro _ _ ⟨rfl, hq⟩
  obtain rfl := hq.symm
  refine x_pushI ?_
  refine x_if_ne (pc := 9) (tgt := 14) dX7_put_9 (by decide) (fun h9 => ?_) (fun h9 => absurd h9 (by rw [b2_n0]; exact k4 hk))
  refine x_aload_n (pc := 14) (i := 0) dX7_put_14 rfl rfl ?_
  refine x_getR (pc := 15) hS fX7_12 dX7_put_15 rfl rfl ?_
  refine x_iload_n (pc := 18) (i := 1) dX7_put_18 rfl rfl ?_
  refine x_vs (pc := 19) (As := [_]) rfl hS lX7_235 dX7_put_19 rfl rfl (Nat.le_of_ble_eq_true rfl) (c_hasN hS hk) ?_
  rintro _ _ ⟨rfl, hq⟩
  obtain rfl := hq.symm
  refine x_pushI ?_
  refine x_if_eq (pc := 22) (tgt := 30) dX7_put_22 (by decide) (fun h22 => ?_) (fun h22 => absurd h22 (by rw [b2_n0, arr_setF]; exact h))
  refine x_aload_n (pc := 30) (i := 0) dX7_put_30 rfl rfl ?_
  refine x_getI (pc := 31) hS fX7_64 dX7_put_31 rfl rfl ?_
  rw [fld_setF hS0 rfl rfl]
  refine x_if_ne (pc := 34) (tgt := 50) dX7_put_34 (by decide) (fun h34 => absurd h34 (by exact not_not_intro rfl)) (fun h34 => ?_)
  refine x_aload_n (pc := 37) (i := 0) dX7_put_37 rfl rfl ?_
  refine x_aload_n (pc := 38) (i := 0) dX7_put_38 rfl rfl ?_
  refine x_getR (pc := 39) hS fX7_12 dX7_put_39 rfl rfl ?_
  refine x_iload_n (pc := 42) (i := 1) dX7_put_42 rfl rfl ?_
  refine x_iload_n (pc := 43) (i := 2) dX7_put_43 rfl rfl ?_
  refine x_vs (pc := 44) (As := [_, _]) rfl hS lX7_242 dX7_put_44 rfl rfl (Nat.le_of_ble_eq_true rfl) (c_X5_faultOfCell hS hk) ?_
  rintro _ _ ⟨rfl, hq⟩
  obtain rfl := hq.symm
  refine x_pushI ?_
  rw [arr_setF, fCell_0 hsz hn hi]
  refine x_putI (pc := 47) hS fX7_64 dX7_put_47 rfl rfl rfl rfl (fun hS => ?_)
  rw [setF_setF]
  have hS := hS0.stF (a := 0) (k := 8) rfl rfl 0
  refine x_aload_n (pc := 50) (i := 0) dX7_put_50 rfl rfl ?_
  refine x_getI (pc := 51) hS fX7_64 dX7_put_51 rfl rfl ?_
  rw [fld_setF hS0 rfl rfl]
  refine x_if_eq (pc := 54) (tgt := 65) dX7_put_54 (by decide) (fun h54 => ?_) (fun h54 => absurd h54 (by exact not_not_intro rfl))
  refine x_aload_n (pc := 65) (i := 0) dX7_put_65 rfl rfl ?_
  refine x_getR (pc := 66) hS fX7_12 dX7_put_66 rfl rfl ?_
  refine x_iload_n (pc := 69) (i := 1) dX7_put_69 rfl rfl ?_
  refine x_iload_n (pc := 70) (i := 2) dX7_put_70 rfl rfl ?_
  refine x_iload_n (pc := 71) (i := 3) dX7_put_71 rfl rfl ?_
  refine x_vs (pc := 72) (As := [_, _, _]) rfl hS lX7_245 dX7_put_72 rfl rfl (Nat.le_of_ble_eq_true rfl) (c_X5_setAt hS hk (by rw [arr_setF]; exact hsz) hn hi) ?_
  rintro _ _ ⟨rfl, hq⟩
  obtain rfl := hq.symm
  refine x_pushV ?_
  refine x_iconst (pc := 75) (v := 1) dX7_put_75 (by decide) ?_
  refine x_ri (pc := 76) dX7_put_76 rfl rfl ?_
  exact ⟨rfl, by rw [arr_setF, arr_setF]⟩
theorem c_X7_cell_a {d : Nat} {w : mW} {k i l : Int32} (hS : Shape w) (h : ¬ ((0 ≤ k ∧ k < 4) ∧ 0 ≤ l ∧ l ≤ 2)) : mC (d + 3) kX7_cell [.ref 0, .int k, .int i, .int l] w (fun r w' => r = some (.long (-9223372036854775808)) ∧ w' = setF w 0 8 0) := by
  refine mC.of (L := [_, _, _, _]) okX7_cell 0 rfl rfl ?_
  refine x_aload_n (pc := 0) (i := 0) dX7_cell_0 rfl rfl ?_
  refine x_iconst (pc := 1) (v := 0) dX7_cell_1 (by decide) ?_
  refine x_putI (pc := 2) hS fX7_64 dX7_cell_2 rfl rfl rfl rfl (fun hS => ?_)
  refine x_iload_n (pc := 5) (i := 1) dX7_cell_5 rfl rfl ?_
  refine x_ss (pc := 6) (As := [_]) rfl lX7_67 dX7_cell_6 rfl (Nat.le_of_ble_eq_true rfl) c_X5_isSheet ?_
  rintro _ _ ⟨rfl, hq⟩
  obtain rfl := hq.symm
  refine x_pushI ?_
  refine x_if_eq (pc := 9) (tgt := 19) dX7_cell_9 (by decide) (fun h9 => ?_) (fun h9 => ?_)
  · refine x_ldc2 (pc := 19) dX7_cell_19 qX7_217 ?_
    refine x_rl (pc := 22) dX7_cell_22 rfl ?_
    exact ⟨rfl, rfl⟩
  · refine x_iload_n (pc := 12) (i := 3) dX7_cell_12 rfl rfl ?_
    refine x_ss (pc := 13) (As := [_]) rfl lX7_71 dX7_cell_13 rfl (Nat.le_of_ble_eq_true rfl) c_X7_isLane ?_
    rintro _ _ ⟨rfl, hq⟩
    obtain rfl := hq.symm
    refine x_pushI ?_
    refine x_if_ne (pc := 16) (tgt := 23) dX7_cell_16 (by decide) (fun h16 => ?_) (fun h16 => ?_)
    · exfalso; (try simp only [b2_e0, b2_n0, Decidable.not_not] at *) <;> (try simp only [i_lt, i_le, i_eq, not_and, not_or, ne_eq, il_0, il_1, il_2, il_3, il_4, il_5, il_6, il_7, il_8, il_9, il_10, il_14, il_15, il_19, il_20, il_24, il_30, il_31, il_44, il_48, il_49, il_52, il_57, il_59, il_60, il_70, il_99, il_100, il_103, il_108, il_114, il_m1, il_m2, il_m3, il_m4, il_m9, il_m10, il_m100] at *) <;> omega
    · refine x_ldc2 (pc := 19) dX7_cell_19 qX7_217 ?_
      refine x_rl (pc := 22) dX7_cell_22 rfl ?_
      exact ⟨rfl, rfl⟩
theorem c_X7_cell_b {d : Nat} {w : mW} {i l : Int32} {k : Nat} (hS0 : Shape w) (hk : k < 4) (hl : 0 ≤ l ∧ l ≤ 2) (h : ¬ fRow (arr w 2 k) l = 0) : mC (d + 3) kX7_cell [.ref 0, .int (nI k), .int i, .int l] w (fun r w' => r = some (.long (-9223372036854775808)) ∧ w' = setF w 0 8 (fRow (arr w 2 k) l)) := by
  have hS := hS0
  refine mC.of (L := [_, _, _, _]) okX7_cell 0 rfl rfl ?_
  refine x_aload_n (pc := 0) (i := 0) dX7_cell_0 rfl rfl ?_
  refine x_iconst (pc := 1) (v := 0) dX7_cell_1 (by decide) ?_
  refine x_putI (pc := 2) hS fX7_64 dX7_cell_2 rfl rfl rfl rfl (fun hS => ?_)
  refine x_iload_n (pc := 5) (i := 1) dX7_cell_5 rfl rfl ?_
  refine x_ss (pc := 6) (As := [_]) rfl lX7_67 dX7_cell_6 rfl (Nat.le_of_ble_eq_true rfl) c_X5_isSheet ?_
  rintro _ _ ⟨rfl, hq⟩
  obtain rfl := hq.symm
  refine x_pushI ?_
  refine x_if_eq (pc := 9) (tgt := 19) dX7_cell_9 (by decide) (fun h9 => absurd h9 (by rw [b2_e0]; exact not_not_intro (k4 hk))) (fun h9 => ?_)
  refine x_iload_n (pc := 12) (i := 3) dX7_cell_12 rfl rfl ?_
  refine x_ss (pc := 13) (As := [_]) rfl lX7_71 dX7_cell_13 rfl (Nat.le_of_ble_eq_true rfl) c_X7_isLane ?_
  rintro _ _ ⟨rfl, hq⟩
  obtain rfl := hq.symm
  refine x_pushI ?_
  refine x_if_ne (pc := 16) (tgt := 23) dX7_cell_16 (by decide) (fun h16 => ?_) (fun h16 => absurd h16 (by rw [b2_n0]; exact hl))
  refine x_aload_n (pc := 23) (i := 0) dX7_cell_23 rfl rfl ?_
  refine x_aload_n (pc := 24) (i := 0) dX7_cell_24 rfl rfl ?_
  refine x_getR (pc := 25) hS fX7_12 dX7_cell_25 rfl rfl ?_
  refine x_iload_n (pc := 28) (i := 1) dX7_cell_28 rfl rfl ?_
  refine x_iload_n (pc := 29) (i := 3) dX7_cell_29 rfl rfl ?_
  refine x_vs (pc := 30) (As := [_, _]) rfl hS lX7_74 dX7_cell_30 rfl rfl (Nat.le_of_ble_eq_true rfl) (c_X5_faultOfRow hS hk) ?_
  rintro _ _ ⟨rfl, hq⟩
  obtain rfl := hq.symm
  refine x_pushI ?_
  rw [arr_setF]
  refine x_putI (pc := 33) hS fX7_64 dX7_cell_33 rfl rfl rfl rfl (fun hS => ?_)
  rw [setF_setF]
  have hS := hS0.stF (a := 0) (k := 8) rfl rfl (fRow (arr w 2 k) l)
  refine x_aload_n (pc := 36) (i := 0) dX7_cell_36 rfl rfl ?_
  refine x_getI (pc := 37) hS fX7_64 dX7_cell_37 rfl rfl ?_
  rw [fld_setF hS0 rfl rfl]
  refine x_if_ne (pc := 40) (tgt := 56) dX7_cell_40 (by decide) (fun h40 => ?_) (fun h40 => absurd h40 (by exact h))
  refine x_aload_n (pc := 56) (i := 0) dX7_cell_56 rfl rfl ?_
  refine x_getI (pc := 57) hS fX7_64 dX7_cell_57 rfl rfl ?_
  rw [fld_setF hS0 rfl rfl]
  refine x_if_eq (pc := 60) (tgt := 67) dX7_cell_60 (by decide) (fun h60 => absurd h60 (by exact h)) (fun h60 => ?_)
  refine x_ldc2 (pc := 63) dX7_cell_63 qX7_217 ?_
  refine x_rl (pc := 66) dX7_cell_66 rfl ?_
  exact ⟨rfl, rfl⟩
theorem c_X7_cell_c {d : Nat} {w : mW} {i l : Int32} {k : Nat} (hS0 : Shape w) (hk : k < 4) (hl : 0 ≤ l ∧ l ≤ 2) (h : fRow (arr w 2 k) l = 0) (hi : fCell (arr w 3 k) i = 3) : mC (d + 3) kX7_cell [.ref 0, .int (nI k), .int i, .int l] w (fun r w' => r = some (.long (-9223372036854775808)) ∧ w' = setF w 0 8 3) := by
  have hS := hS0
  refine mC.of (L := [_, _, _, _]) okX7_cell 0 rfl rfl ?_
  refine x_aload_n (pc := 0) (i := 0) dX7_cell_0 rfl rfl ?_
  refine x_iconst (pc := 1) (v := 0) dX7_cell_1 (by decide) ?_
  refine x_putI (pc := 2) hS fX7_64 dX7_cell_2 rfl rfl rfl rfl (fun hS => ?_)
  refine x_iload_n (pc := 5) (i := 1) dX7_cell_5 rfl rfl ?_
  refine x_ss (pc := 6) (As := [_]) rfl lX7_67 dX7_cell_6 rfl (Nat.le_of_ble_eq_true rfl) c_X5_isSheet ?_
  rintro _ _ ⟨rfl, hq⟩
  obtain rfl := hq.symm
  refine x_pushI ?_
  refine x_if_eq (pc := 9) (tgt := 19) dX7_cell_9 (by decide) (fun h9 => absurd h9 (by rw [b2_e0]; exact not_not_intro (k4 hk))) (fun h9 => ?_)
  refine x_iload_n (pc := 12) (i := 3) dX7_cell_12 rfl rfl ?_
  refine x_ss (pc := 13) (As := [_]) rfl lX7_71 dX7_cell_13 rfl (Nat.le_of_ble_eq_true rfl) c_X7_isLane ?_
  rintro _ _ ⟨rfl, hq⟩
  obtain rfl := hq.symm
  refine x_pushI ?_
  refine x_if_ne (pc := 16) (tgt := 23) dX7_cell_16 (by decide) (fun h16 => ?_) (fun h16 => absurd h16 (by rw [b2_n0]; exact hl))
  refine x_aload_n (pc := 23) (i := 0) dX7_cell_23 rfl rfl ?_
  refine x_aload_n (pc := 24) (i := 0) dX7_cell_24 rfl rfl ?_
  refine x_getR (pc := 25) hS fX7_12 dX7_cell_25 rfl rfl ?_
  refine x_iload_n (pc := 28) (i := 1) dX7_cell_28 rfl rfl ?_
  refine x_iload_n (pc := 29) (i := 3) dX7_cell_29 rfl rfl ?_
  refine x_vs (pc := 30) (As := [_, _]) rfl hS lX7_74 dX7_cell_30 rfl rfl (Nat.le_of_ble_eq_true rfl) (c_X5_faultOfRow hS hk) ?_
  rintro _ _ ⟨rfl, hq⟩
  obtain rfl := hq.symm
  refine x_pushI ?_
  rw [arr_setF, h]
  refine x_putI (pc := 33) hS fX7_64 dX7_cell_33 rfl rfl rfl rfl (fun hS => ?_)
  rw [setF_setF]
  have hS := hS0.stF (a := 0) (k := 8) rfl rfl 0
  refine x_aload_n (pc := 36) (i := 0) dX7_cell_36 rfl rfl ?_
  refine x_getI (pc := 37) hS fX7_64 dX7_cell_37 rfl rfl ?_
  rw [fld_setF hS0 rfl rfl]
  refine x_if_ne (pc := 40) (tgt := 56) dX7_cell_40 (by decide) (fun h40 => absurd h40 (by exact not_not_intro rfl)) (fun h40 => ?_)
  refine x_aload_n (pc := 43) (i := 0) dX7_cell_43 rfl rfl ?_
  refine x_aload_n (pc := 44) (i := 0) dX7_cell_44 rfl rfl ?_
  refine x_getR (pc := 45) hS fX7_12 dX7_cell_45 rfl rfl ?_
  refine x_iload_n (pc := 48) (i := 1) dX7_cell_48 rfl rfl ?_
  refine x_iload_n (pc := 49) (i := 2) dX7_cell_49 rfl rfl ?_
  refine x_vs (pc := 50) (As := [_, _]) rfl hS lX7_242 dX7_cell_50 rfl rfl (Nat.le_of_ble_eq_true rfl) (c_X5_faultOfCell hS hk) ?_
  rintro _ _ ⟨rfl, hq⟩
  obtain rfl := hq.symm
  refine x_pushI ?_
  rw [arr_setF, hi]
  refine x_putI (pc := 53) hS fX7_64 dX7_cell_53 rfl rfl rfl rfl (fun hS => ?_)
  rw [setF_setF]
  have hS := hS0.stF (a := 0) (k := 8) rfl rfl 3
  refine x_aload_n (pc := 56) (i := 0) dX7_cell_56 rfl rfl ?_
  refine x_getI (pc := 57) hS fX7_64 dX7_cell_57 rfl rfl ?_
  rw [fld_setF hS0 rfl rfl]
  refine x_if_eq (pc := 60) (tgt := 67) dX7_cell_60 (by decide) (fun h60 => absurd h60 (by decide)) (fun h60 => ?_)
  refine x_ldc2 (pc := 63) dX7_cell_63 qX7_217 ?_
  refine x_rl (pc := 66) dX7_cell_66 rfl ?_
  exact ⟨rfl, rfl⟩
theorem c_X7_cell_d {d : Nat} {w : mW} {l : Int32} {k i n : Nat} (hS0 : Shape w) (hk : k < 4) (hl : 0 ≤ l ∧ l ≤ 2) (h : fRow (arr w 2 k) l = 0) (hsz : arr w 3 k = nI n) (hn : n ≤ 60) (hi : i < n) : mC (d + 3) kX7_cell [.ref 0, .int (nI k), .int (nI i), .int l] w (fun r w' => r = some (.long (arr w 4 (60 * k + i)).toInt64) ∧ w' = setF w 0 8 0) := by
  have hS := hS0
  refine mC.of (L := [_, _, _, _]) okX7_cell 0 rfl rfl ?_
  refine x_aload_n (pc := 0) (i := 0) dX7_cell_0 rfl rfl ?_
  refine x_iconst (pc := 1) (v := 0) dX7_cell_1 (by decide) ?_
  refine x_putI (pc := 2) hS fX7_64 dX7_cell_2 rfl rfl rfl rfl (fun hS => ?_)
  refine x_iload_n (pc := 5) (i := 1) dX7_cell_5 rfl rfl ?_
  refine x_ss (pc := 6) (As := [_]) rfl lX7_67 dX7_cell_6 rfl (Nat.le_of_ble_eq_true rfl) c_X5_isSheet ?_
  rintro _ _ ⟨rfl, hq⟩
  obtain rfl := hq.symm
  refine x_pushI ?_
  refine x_if_eq (pc := 9) (tgt := 19) dX7_cell_9 (by decide) (fun h9 => absurd h9 (by rw [b2_e0]; exact not_not_intro (k4 hk))) (fun h9 => ?_)
  refine x_iload_n (pc := 12) (i := 3) dX7_cell_12 rfl rfl ?_
  refine x_ss (pc := 13) (As := [_]) rfl lX7_71 dX7_cell_13 rfl (Nat.le_of_ble_eq_true rfl) c_X7_isLane ?_
  rintro _ _ ⟨rfl, hq⟩
  obtain rfl := hq.symm
  refine x_pushI ?_
  refine x_if_ne (pc := 16) (tgt := 23) dX7_cell_16 (by decide) (fun h16 => ?_) (fun h16 => absurd h16 (by rw [b2_n0]; exact hl))
  refine x_aload_n (pc := 23) (i := 0) dX7_cell_23 rfl rfl ?_
  refine x_aload_n (pc := 24) (i := 0) dX7_cell_24 rfl rfl ?_
  refine x_getR (pc := 25) hS fX7_12 dX7_cell_25 rfl rfl ?_
  refine x_iload_n (pc := 28) (i := 1) dX7_cell_28 rfl rfl ?_
  refine x_iload_n (pc := 29) (i := 3) dX7_cell_29 rfl rfl ?_
  refine x_vs (pc := 30) (As := [_, _]) rfl hS lX7_74 dX7_cell_30 rfl rfl (Nat.le_of_ble_eq_true rfl) (c_X5_faultOfRow hS hk) ?_
  rintro _ _ ⟨rfl, hq⟩
  obtain rfl := hq.symm
  refine x_pushI ?_
  rw [arr_setF, h]
  refine x_putI (pc := 33) hS fX7_64 dX7_cell_33 rfl rfl rfl rfl (fun hS => ?_)
  rw [setF_setF]
  have hS := hS0.stF (a := 0) (k := 8) rfl rfl 0
  refine x_aload_n (pc := 36) (i := 0) dX7_cell_36 rfl rfl ?_
  refine x_getI (pc := 37) hS fX7_64 dX7_cell_37 rfl rfl ?_
  rw [fld_setF hS0 rfl rfl]
  refine x_if_ne (pc := 40) (tgt := 56) dX7_cell_40 (by decide) (fun h40 => absurd h40 (by exact not_not_intro rfl)) (fun h40 => ?_)
  refine x_aload_n (pc := 43) (i := 0) dX7_cell_43 rfl rfl ?_
  refine x_aload_n (pc := 44) (i := 0) dX7_cell_44 rfl rfl ?_
  refine x_getR (pc := 45) hS fX7_12 dX7_cell_45 rfl rfl ?_
  refine x_iload_n (pc := 48) (i := 1) dX7_cell_48 rfl rfl ?_
  refine x_iload_n (pc := 49) (i := 2) dX7_cell_49 rfl rfl ?_
  refine x_vs (pc := 50) (As := [_, _]) rfl hS lX7_242 dX7_cell_50 rfl rfl (Nat.le_of_ble_eq_true rfl) (c_X5_faultOfCell hS hk) ?_
  rintro _ _ ⟨rfl, hq⟩
  obtain rfl := hq.symm
  refine x_pushI ?_
  rw [arr_setF, fCell_0 hsz hn hi]
  refine x_putI (pc := 53) hS fX7_64 dX7_cell_53 rfl rfl rfl rfl (fun hS => ?_)
  rw [setF_setF]
  have hS := hS0.stF (a := 0) (k := 8) rfl rfl 0
  refine x_aload_n (pc := 56) (i := 0) dX7_cell_56 rfl rfl ?_
  refine x_getI (pc := 57) hS fX7_64 dX7_cell_57 rfl rfl ?_
  rw [fld_setF hS0 rfl rfl]
  refine x_if_eq (pc := 60) (tgt := 67) dX7_cell_60 (by decide) (fun h60 => ?_) (fun h60 => absurd h60 (by exact not_not_intro rfl))
  refine x_aload_n (pc := 67) (i := 0) dX7_cell_67 rfl rfl ?_
  refine x_getR (pc := 68) hS fX7_12 dX7_cell_68 rfl rfl ?_
  refine x_iload_n (pc := 71) (i := 1) dX7_cell_71 rfl rfl ?_
  refine x_iload_n (pc := 72) (i := 2) dX7_cell_72 rfl rfl ?_
  refine x_vs (pc := 73) (As := [_, _]) rfl hS lX7_248 dX7_cell_73 rfl rfl (Nat.le_of_ble_eq_true rfl) (c_X5_valueAt hS hk (by rw [arr_setF]; exact hsz) hn hi) ?_
  rintro _ _ ⟨rfl, hq⟩
  obtain rfl := hq.symm
  refine x_pushI ?_
  refine x_i2l (pc := 76) dX7_cell_76 rfl ?_
  refine x_rl (pc := 77) dX7_cell_77 rfl ?_
  exact ⟨by rw [arr_setF], rfl⟩

