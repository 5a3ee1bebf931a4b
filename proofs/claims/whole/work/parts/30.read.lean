-- readings
theorem nI_ofT {x : Int32} {n : Nat} (h : x.toInt = (n : Int)) (hn : n < 2 ^ 31) : x = nI n := by rw [i_eq, nI_toInt hn, h]
theorem c_X3_hasRoom {d : Nat} {w : mW} (hS : Shape w) : mC d kX3_hasRoom [.ref 40] w (fun r w' => r = some (.int (b2 (fld w 40 3 < 8))) ∧ w' = w) := by
  refine mC.of (L := [_]) okX3_hasRoom 0 rfl rfl ?_
  refine x_aload_n (pc := 0) (i := 0) dX3_hasRoom_0 rfl rfl ?_
  refine x_getI (pc := 1) hS fX3_21 dX3_hasRoom_1 rfl rfl ?_
  refine x_bipush (pc := 4) (v := 8) dX3_hasRoom_4 (by decide) ?_
  refine x_icmp_ge (pc := 6) (tgt := 13) dX3_hasRoom_6 (by decide) (fun h6 => ?_) (fun h6 => ?_)
  · refine x_iconst (pc := 13) (v := 0) dX3_hasRoom_13 (by decide) ?_
    refine x_ri (pc := 14) dX3_hasRoom_14 rfl rfl ?_
    exact ⟨by unfold b2; split <;> first | rfl | contradiction | (exfalso; (try simp only [b2_e0, b2_n0, Decidable.not_not] at *) <;> (try simp only [i_lt, i_le, i_eq, not_and, not_or, ne_eq, il_0, il_1, il_2, il_3, il_4, il_5, il_6, il_7, il_8, il_9, il_10, il_14, il_15, il_19, il_20, il_24, il_30, il_31, il_44, il_48, il_49, il_52, il_57, il_59, il_60, il_70, il_99, il_100, il_103, il_108, il_114, il_m1, il_m2, il_m3, il_m4, il_m9, il_m10, il_m100] at *) <;> omega), rfl⟩
  · refine x_iconst (pc := 9) (v := 1) dX3_hasRoom_9 (by decide) ?_
    refine x_goto (pc := 10) (tgt := 14) dX3_hasRoom_10 (by decide) ?_
    refine x_ri (pc := 14) dX3_hasRoom_14 rfl rfl ?_
    exact ⟨by unfold b2; split <;> first | rfl | contradiction | (exfalso; (try simp only [b2_e0, b2_n0, Decidable.not_not] at *) <;> (try simp only [i_lt, i_le, i_eq, not_and, not_or, ne_eq, il_0, il_1, il_2, il_3, il_4, il_5, il_6, il_7, il_8, il_9, il_10, il_14, il_15, il_19, il_20, il_24, il_30, il_31, il_44, il_48, il_49, il_52, il_57, il_59, il_60, il_70, il_99, il_100, il_103, il_108, il_114, il_m1, il_m2, il_m3, il_m4, il_m9, il_m10, il_m100] at *) <;> omega), rfl⟩
/-- the world behind a reading -/
def rdW (aB aL aF o k n : Nat) (b l f : Int32) (w : mW) : mW := setF (setA (setA (setA w aB (upd (arr w aB) n b)) aL (upd (arr w aL) n l)) aF (upd (arr w aF) n f)) o k (nI (n + 1))
theorem c_X3_note {d : Nat} {w : mW} {b l f : Int32} {n : Nat} (hS0 : Shape w) (tn : (fld w 40 3).toInt = (n : Int)) (hn : n < 8) : mC (d + 1) kX3_note [.ref 40, .int b, .int l, .int f] w (fun r w' => r = some (.int (nI n)) ∧ w' = rdW 41 42 43 40 3 n b l f w) := by
  have ec := nI_ofT tn (by omega)
  have hS := hS0
  refine mC.of (L := [_, _, _, _]) okX3_note 0 rfl rfl ?_
  refine x_aload_n (pc := 0) (i := 0) dX3_note_0 rfl rfl ?_
  refine x_vs (pc := 1) (As := []) rfl hS lX3_25 dX3_note_1 rfl rfl (Nat.le_of_ble_eq_true rfl) (c_X3_hasRoom hS) ?_
  rintro _ _ ⟨rfl, hq⟩
  obtain rfl := hq.symm
  refine x_pushI ?_
  refine x_if_ne (pc := 4) (tgt := 10) dX3_note_4 (by decide) (fun h4 => ?_) (fun h4 => absurd h4 (by rw [b2_n0]; (try simp only [b2_e0, b2_n0, Decidable.not_not] at *) <;> (try simp only [i_lt, i_le, i_eq, not_and, not_or, ne_eq, il_0, il_1, il_2, il_3, il_4, il_5, il_6, il_7, il_8, il_9, il_10, il_14, il_15, il_19, il_20, il_24, il_30, il_31, il_44, il_48, il_49, il_52, il_57, il_59, il_60, il_70, il_99, il_100, il_103, il_108, il_114, il_m1, il_m2, il_m3, il_m4, il_m9, il_m10, il_m100] at *) <;> omega))
  refine x_aload_n (pc := 10) (i := 0) dX3_note_10 rfl rfl ?_
  refine x_getR (pc := 11) hS fX3_11 dX3_note_11 rfl rfl ?_
  refine x_aload_n (pc := 14) (i := 0) dX3_note_14 rfl rfl ?_
  refine x_getI (pc := 15) hS fX3_21 dX3_note_15 rfl rfl ?_
  rw [ec]
  refine x_iload_n (pc := 18) (i := 1) dX3_note_18 rfl rfl ?_
  refine x_astN (pc := 19) hS dX3_note_19 rfl (by omega) (by decide) (fun hS => ?_)
  refine x_aload_n (pc := 20) (i := 0) dX3_note_20 rfl rfl ?_
  refine x_getR (pc := 21) hS fX3_15 dX3_note_21 rfl rfl ?_
  refine x_aload_n (pc := 24) (i := 0) dX3_note_24 rfl rfl ?_
  refine x_getI (pc := 25) hS fX3_21 dX3_note_25 rfl rfl ?_
  rw [fld_setA, ec]
  refine x_iload_n (pc := 28) (i := 2) dX3_note_28 rfl rfl ?_
  refine x_astN (pc := 29) hS dX3_note_29 rfl (by omega) (by decide) (fun hS => ?_)
  refine x_aload_n (pc := 30) (i := 0) dX3_note_30 rfl rfl ?_
  refine x_getR (pc := 31) hS fX3_18 dX3_note_31 rfl rfl ?_
  refine x_aload_n (pc := 34) (i := 0) dX3_note_34 rfl rfl ?_
  refine x_getI (pc := 35) hS fX3_21 dX3_note_35 rfl rfl ?_
  rw [fld_setA, fld_setA, ec]
  refine x_iload_n (pc := 38) (i := 3) dX3_note_38 rfl rfl ?_
  refine x_astN (pc := 39) hS dX3_note_39 rfl (by omega) (by decide) (fun hS => ?_)
  refine x_aload_n (pc := 40) (i := 0) dX3_note_40 rfl rfl ?_
  refine x_dup (pc := 41) dX3_note_41 rfl ?_
  refine x_getI (pc := 42) hS fX3_21 dX3_note_42 rfl rfl ?_
  rw [fld_setA, fld_setA, fld_setA, ec]
  refine x_iconst (pc := 45) (v := 1) dX3_note_45 (by decide) ?_
  refine x_iadd (pc := 46) dX3_note_46 ?_
  rw [nI_1]
  refine x_putI (pc := 47) hS fX3_21 dX3_note_47 rfl rfl rfl rfl (fun hS => ?_)
  refine x_aload_n (pc := 50) (i := 0) dX3_note_50 rfl rfl ?_
  refine x_getI (pc := 51) hS fX3_21 dX3_note_51 rfl rfl ?_
  rw [fld_setF ((hS0.stA _ _).stA _ _ |>.stA _ _) rfl rfl]
  refine x_iconst (pc := 54) (v := 1) dX3_note_54 (by decide) ?_
  refine x_isub (pc := 55) dX3_note_55 ?_
  rw [nI_pred]
  refine x_ri (pc := 56) dX3_note_56 rfl rfl ?_
  refine ⟨rfl, ?_⟩
  unfold rdW
  rw [arr_setA_a (by decide), arr_setA_a (by decide), arr_setA_a (by decide)]
theorem c_X7_reading_a {d : Nat} {w : mW} {b l f : Int32} (hS : Shape w) (h : ¬ (0 ≤ b ∧ b < fld w 7 0)) : mC (d + 1) kX7_reading [.ref 0, .int b, .int l, .int f] w (fun r w' => r = some (.int (-1)) ∧ w' = w) := by
  refine mC.of (L := [_, _, _, _]) okX7_reading 0 rfl rfl ?_
  refine x_aload_n (pc := 0) (i := 0) dX7_reading_0 rfl rfl ?_
  refine x_getR (pc := 1) hS fX7_28 dX7_reading_1 rfl rfl ?_
  refine x_iload_n (pc := 4) (i := 1) dX7_reading_4 rfl rfl ?_
  refine x_vs (pc := 5) (As := [_]) rfl hS lX7_100 dX7_reading_5 rfl rfl (Nat.le_of_ble_eq_true rfl) (c_X0_hasBarrow_7 hS) ?_
  rintro _ _ ⟨rfl, hq⟩
  obtain rfl := hq.symm
  refine x_pushI ?_
  refine x_if_ne (pc := 8) (tgt := 13) dX7_reading_8 (by decide) (fun h8 => absurd h8 (by rw [b2_n0]; exact h)) (fun h8 => ?_)
  refine x_iconst (pc := 11) (v := (-1)) dX7_reading_11 (by decide) ?_
  refine x_ri (pc := 12) dX7_reading_12 rfl rfl ?_
  exact ⟨rfl, rfl⟩
theorem c_X7_reading_b {d : Nat} {w : mW} {b l f : Int32} (hS : Shape w) (h : 0 ≤ b ∧ b < fld w 7 0) (hl : ¬ ((0 ≤ l ∧ l ≤ 9) ∧ 0 ≤ f ∧ f ≤ 1)) : mC (d + 1) kX7_reading [.ref 0, .int b, .int l, .int f] w (fun r w' => r = some (.int (-2)) ∧ w' = w) := by
  refine mC.of (L := [_, _, _, _]) okX7_reading 0 rfl rfl ?_
  refine x_aload_n (pc := 0) (i := 0) dX7_reading_0 rfl rfl ?_
  refine x_getR (pc := 1) hS fX7_28 dX7_reading_1 rfl rfl ?_
  refine x_iload_n (pc := 4) (i := 1) dX7_reading_4 rfl rfl ?_
  refine x_vs (pc := 5) (As := [_]) rfl hS lX7_100 dX7_reading_5 rfl rfl (Nat.le_of_ble_eq_true rfl) (c_X0_hasBarrow_7 hS) ?_
  rintro _ _ ⟨rfl, hq⟩
  obtain rfl := hq.symm
  refine x_pushI ?_
  refine x_if_ne (pc := 8) (tgt := 13) dX7_reading_8 (by decide) (fun h8 => ?_) (fun h8 => absurd h8 (by rw [b2_n0]; exact h))
  refine x_iload_n (pc := 13) (i := 2) dX7_reading_13 rfl rfl ?_
  refine x_if_lt (pc := 14) (tgt := 32) dX7_reading_14 (by decide) (fun h14 => ?_) (fun h14 => ?_)
  · refine x_bipush (pc := 32) (v := (-2)) dX7_reading_32 (by decide) ?_
    refine x_ri (pc := 34) dX7_reading_34 rfl rfl ?_
    exact ⟨rfl, rfl⟩
  · refine x_iload_n (pc := 17) (i := 2) dX7_reading_17 rfl rfl ?_
    refine x_bipush (pc := 18) (v := 9) dX7_reading_18 (by decide) ?_
    refine x_icmp_gt (pc := 20) (tgt := 32) dX7_reading_20 (by decide) (fun h20 => ?_) (fun h20 => ?_)
    · refine x_bipush (pc := 32) (v := (-2)) dX7_reading_32 (by decide) ?_
      refine x_ri (pc := 34) dX7_reading_34 rfl rfl ?_
      exact ⟨rfl, rfl⟩
    · refine x_iload_n (pc := 23) (i := 3) dX7_reading_23 rfl rfl ?_
      refine x_if_lt (pc := 24) (tgt := 32) dX7_reading_24 (by decide) (fun h24 => ?_) (fun h24 => ?_)
      · refine x_bipush (pc := 32) (v := (-2)) dX7_reading_32 (by decide) ?_
        refine x_ri (pc := 34) dX7_reading_34 rfl rfl ?_
        exact ⟨rfl, rfl⟩
      · refine x_iload_n (pc := 27) (i := 3) dX7_reading_27 rfl rfl ?_
        refine x_iconst (pc := 28) (v := 1) dX7_reading_28 (by decide) ?_
        refine x_icmp_le (pc := 29) (tgt := 35) dX7_reading_29 (by decide) (fun h29 => ?_) (fun h29 => ?_)
        · exfalso; (try simp only [b2_e0, b2_n0, Decidable.not_not] at *) <;> (try simp only [i_lt, i_le, i_eq, not_and, not_or, ne_eq, il_0, il_1, il_2, il_3, il_4, il_5, il_6, il_7, il_8, il_9, il_10, il_14, il_15, il_19, il_20, il_24, il_30, il_31, il_44, il_48, il_49, il_52, il_57, il_59, il_60, il_70, il_99, il_100, il_103, il_108, il_114, il_m1, il_m2, il_m3, il_m4, il_m9, il_m10, il_m100] at *) <;> omega
        · refine x_bipush (pc := 32) (v := (-2)) dX7_reading_32 (by decide) ?_
          refine x_ri (pc := 34) dX7_reading_34 rfl rfl ?_
          exact ⟨rfl, rfl⟩
theorem c_X7_reading_c {d : Nat} {w : mW} {b l f : Int32} (hS : Shape w) (h : 0 ≤ b ∧ b < fld w 7 0) (hl : (0 ≤ l ∧ l ≤ 9) ∧ 0 ≤ f ∧ f ≤ 1) (hr : ¬ fld w 40 3 < 8) : mC (d + 1) kX7_reading [.ref 0, .int b, .int l, .int f] w (fun r w' => r = some (.int (-4)) ∧ w' = w) := by
  refine mC.of (L := [_, _, _, _]) okX7_reading 0 rfl rfl ?_
  refine x_aload_n (pc := 0) (i := 0) dX7_reading_0 rfl rfl ?_
  refine x_getR (pc := 1) hS fX7_28 dX7_reading_1 rfl rfl ?_
  refine x_iload_n (pc := 4) (i := 1) dX7_reading_4 rfl rfl ?_
  refine x_vs (pc := 5) (As := [_]) rfl hS lX7_100 dX7_reading_5 rfl rfl (Nat.le_of_ble_eq_true rfl) (c_X0_hasBarrow_7 hS) ?_
  rintro _ _ ⟨rfl, hq⟩
  obtain rfl := hq.symm
  refine x_pushI ?_
  refine x_if_ne (pc := 8) (tgt := 13) dX7_reading_8 (by decide) (fun h8 => ?_) (fun h8 => absurd h8 (by rw [b2_n0]; exact h))
  refine x_iload_n (pc := 13) (i := 2) dX7_reading_13 rfl rfl ?_
  refine x_if_lt (pc := 14) (tgt := 32) dX7_reading_14 (by decide) (fun h14 => absurd h14 (by (try simp only [b2_e0, b2_n0, Decidable.not_not] at *) <;> (try simp only [i_lt, i_le, i_eq, not_and, not_or, ne_eq, il_0, il_1, il_2, il_3, il_4, il_5, il_6, il_7, il_8, il_9, il_10, il_14, il_15, il_19, il_20, il_24, il_30, il_31, il_44, il_48, il_49, il_52, il_57, il_59, il_60, il_70, il_99, il_100, il_103, il_108, il_114, il_m1, il_m2, il_m3, il_m4, il_m9, il_m10, il_m100] at *) <;> omega)) (fun h14 => ?_)
  refine x_iload_n (pc := 17) (i := 2) dX7_reading_17 rfl rfl ?_
  refine x_bipush (pc := 18) (v := 9) dX7_reading_18 (by decide) ?_
  refine x_icmp_gt (pc := 20) (tgt := 32) dX7_reading_20 (by decide) (fun h20 => absurd h20 (by (try simp only [b2_e0, b2_n0, Decidable.not_not] at *) <;> (try simp only [i_lt, i_le, i_eq, not_and, not_or, ne_eq, il_0, il_1, il_2, il_3, il_4, il_5, il_6, il_7, il_8, il_9, il_10, il_14, il_15, il_19, il_20, il_24, il_30, il_31, il_44, il_48, il_49, il_52, il_57, il_59, il_60, il_70, il_99, il_100, il_103, il_108, il_114, il_m1, il_m2, il_m3, il_m4, il_m9, il_m10, il_m100] at *) <;> omega)) (fun h20 => ?_)
  refine x_iload_n (pc := 23) (i := 3) dX7_reading_23 rfl rfl ?_
  refine x_if_lt (pc := 24) (tgt := 32) dX7_reading_24 (by decide) (fun h24 => absurd h24 (by (try simp only [b2_e0, b2_n0, Decidable.not_not] at *) <;> (try simp only [i_lt, i_le, i_eq, not_and, not_or, ne_eq, il_0, il_1, il_2, il_3, il_4, il_5, il_6, il_7, il_8, il_9, il_10, il_14, il_15, il_19, il_20, il_24, il_30, il_31, il_44, il_48, il_49, il_52, il_57, il_59, il_60, il_70, il_99, il_100, il_103, il_108, il_114, il_m1, il_m2, il_m3, il_m4, il_m9, il_m10, il_m100] at *) <;> omega)) (fun h24 => ?_)
  refine x_iload_n (pc := 27) (i := 3) dX7_reading_27 rfl rfl ?_
  refine x_iconst (pc := 28) (v := 1) dX7_reading_28 (by decide) ?_
  refine x_icmp_le (pc := 29) (tgt := 35) dX7_reading_29 (by decide) (fun h29 => ?_) (fun h29 => absurd h29 (by (try simp only [b2_e0, b2_n0, Decidable.not_not] at *) <;> (try simp only [i_lt, i_le, i_eq, not_and, not_or, ne_eq, il_0, il_1, il_2, il_3, il_4, il_5, il_6, il_7, il_8, il_9, il_10, il_14, il_15, il_19, il_20, il_24, il_30, il_31, il_44, il_48, il_49, il_52, il_57, il_59, il_60, il_70, il_99, il_100, il_103, il_108, il_114, il_m1, il_m2, il_m3, il_m4, il_m9, il_m10, il_m100] at *) <;> omega))
  refine x_aload_n (pc := 35) (i := 0) dX7_reading_35 rfl rfl ?_
  refine x_getR (pc := 36) hS fX7_56 dX7_reading_36 rfl rfl ?_
  refine x_vs (pc := 39) (As := []) rfl hS lX7_204 dX7_reading_39 rfl rfl (Nat.le_of_ble_eq_true rfl) (c_X3_hasRoom hS) ?_
  rintro _ _ ⟨rfl, hq⟩
  obtain rfl := hq.symm
  refine x_pushI ?_
  refine x_if_ne (pc := 42) (tgt := 48) dX7_reading_42 (by decide) (fun h42 => absurd h42 (by rw [b2_n0]; exact hr)) (fun h42 => ?_)
  refine x_bipush (pc := 45) (v := (-4)) dX7_reading_45 (by decide) ?_
  refine x_ri (pc := 47) dX7_reading_47 rfl rfl ?_
  exact ⟨rfl, rfl⟩
theorem c_X7_reading_d {d : Nat} {w : mW} {b l f : Int32} {n : Nat} (hS : Shape w) (h : 0 ≤ b ∧ b < fld w 7 0) (hl : (0 ≤ l ∧ l ≤ 9) ∧ 0 ≤ f ∧ f ≤ 1) (tn : (fld w 40 3).toInt = (n : Int)) (hn : n < 8) : mC (d + 2) kX7_reading [.ref 0, .int b, .int l, .int f] w (fun r w' => r = some (.int (nI n)) ∧ w' = rdW 41 42 43 40 3 n b l f w) := by
  refine mC.of (L := [_, _, _, _]) okX7_reading 0 rfl rfl ?_
  refine x_aload_n (pc := 0) (i := 0) dX7_reading_0 rfl rfl ?_
  refine x_getR (pc := 1) hS fX7_28 dX7_reading_1 rfl rfl ?_
  refine x_iload_n (pc := 4) (i := 1) dX7_reading_4 rfl rfl ?_
  refine x_vs (pc := 5) (As := [_]) rfl hS lX7_100 dX7_reading_5 rfl rfl (Nat.le_of_ble_eq_true rfl) (c_X0_hasBarrow_7 hS) ?_
  rintro _ _ ⟨rfl, hq⟩
  obtain rfl := hq.symm
  refine x_pushI ?_
  refine x_if_ne (pc := 8) (tgt := 13) dX7_reading_8 (by decide) (fun h8 => ?_) (fun h8 => absurd h8 (by rw [b2_n0]; exact h))
  refine x_iload_n (pc := 13) (i := 2) dX7_reading_13 rfl rfl ?_
  refine x_if_lt (pc := 14) (tgt := 32) dX7_reading_14 (by decide) (fun h14 => absurd h14 (by (try simp only [b2_e0, b2_n0, Decidable.not_not] at *) <;> (try simp only [i_lt, i_le, i_eq, not_and, not_or, ne_eq, il_0, il_1, il_2, il_3, il_4, il_5, il_6, il_7, il_8, il_9, il_10, il_14, il_15, il_19, il_20, il_24, il_30, il_31, il_44, il_48, il_49, il_52, il_57, il_59, il_60, il_70, il_99, il_100, il_103, il_108, il_114, il_m1, il_m2, il_m3, il_m4, il_m9, il_m10, il_m100] at *) <;> omega)) (fun h14 => ?_)
  refine x_iload_n (pc := 17) (i := 2) dX7_reading_17 rfl rfl ?_
  refine x_bipush (pc := 18) (v := 9) dX7_reading_18 (by decide) ?_
  refine x_icmp_gt (pc := 20) (tgt := 32) dX7_reading_20 (by decide) (fun h20 => absurd h20 (by (try simp only [b2_e0, b2_n0, Decidable.not_not] at *) <;> (try simp only [i_lt, i_le, i_eq, not_and, not_or, ne_eq, il_0, il_1, il_2, il_3, il_4, il_5, il_6, il_7, il_8, il_9, il_10, il_14, il_15, il_19, il_20, il_24, il_30, il_31, il_44, il_48, il_49, il_52, il_57, il_59, il_60, il_70, il_99, il_100, il_103, il_108, il_114, il_m1, il_m2, il_m3, il_m4, il_m9, il_m10, il_m100] at *) <;> omega)) (fun h20 => ?_)
  refine x_iload_n (pc := 23) (i := 3) dX7_reading_23 rfl rfl ?_
  refine x_if_lt (pc := 24) (tgt := 32) dX7_reading_24 (by decide) (fun h24 => absurd h24 (by (try simp only [b2_e0, b2_n0, Decidable.not_not] at *) <;> (try simp only [i_lt, i_le, i_eq, not_and, not_or, ne_eq, il_0, il_1, il_2, il_3, il_4, il_5, il_6, il_7, il_8, il_9, il_10, il_14, il_15, il_19, il_20, il_24, il_30, il_31, il_44, il_48, il_49, il_52, il_57, il_59, il_60, il_70, il_99, il_100, il_103, il_108, il_114, il_m1, il_m2, il_m3, il_m4, il_m9, il_m10, il_m100] at *) <;> omega)) (fun h24 => ?_)
  refine x_iload_n (pc := 27) (i := 3) dX7_reading_27 rfl rfl ?_
  refine x_iconst (pc := 28) (v := 1) dX7_reading_28 (by decide) ?_
  refine x_icmp_le (pc := 29) (tgt := 35) dX7_reading_29 (by decide) (fun h29 => ?_) (fun h29 => absurd h29 (by (try simp only [b2_e0, b2_n0, Decidable.not_not] at *) <;> (try simp only [i_lt, i_le, i_eq, not_and, not_or, ne_eq, il_0, il_1, il_2, il_3, il_4, il_5, il_6, il_7, il_8, il_9, il_10, il_14, il_15, il_19, il_20, il_24, il_30, il_31, il_44, il_48, il_49, il_52, il_57, il_59, il_60, il_70, il_99, il_100, il_103, il_108, il_114, il_m1, il_m2, il_m3, il_m4, il_m9, il_m10, il_m100] at *) <;> omega))
  refine x_aload_n (pc := 35) (i := 0) dX7_reading_35 rfl rfl ?_
  refine x_getR (pc := 36) hS fX7_56 dX7_reading_36 rfl rfl ?_
  refine x_vs (pc := 39) (As := []) rfl hS lX7_204 dX7_reading_39 rfl rfl (Nat.le_of_ble_eq_true rfl) (c_X3_hasRoom hS) ?_
  rintro _ _ ⟨rfl, hq⟩
  obtain rfl := hq.symm
  refine x_pushI ?_
  refine x_if_ne (pc := 42) (tgt := 48) dX7_reading_42 (by decide) (fun h42 => ?_) (fun h42 => absurd h42 (by rw [b2_n0]; (try simp only [b2_e0, b2_n0, Decidable.not_not] at *) <;> (try simp only [i_lt, i_le, i_eq, not_and, not_or, ne_eq, il_0, il_1, il_2, il_3, il_4, il_5, il_6, il_7, il_8, il_9, il_10, il_14, il_15, il_19, il_20, il_24, il_30, il_31, il_44, il_48, il_49, il_52, il_57, il_59, il_60, il_70, il_99, il_100, il_103, il_108, il_114, il_m1, il_m2, il_m3, il_m4, il_m9, il_m10, il_m100] at *) <;> omega))
  refine x_aload_n (pc := 48) (i := 0) dX7_reading_48 rfl rfl ?_
  refine x_getR (pc := 49) hS fX7_56 dX7_reading_49 rfl rfl ?_
  refine x_iload_n (pc := 52) (i := 1) dX7_reading_52 rfl rfl ?_
  refine x_iload_n (pc := 53) (i := 2) dX7_reading_53 rfl rfl ?_
  refine x_iload_n (pc := 54) (i := 3) dX7_reading_54 rfl rfl ?_
  refine x_vs (pc := 55) (As := [_, _, _]) rfl hS lX7_207 dX7_reading_55 rfl rfl (Nat.le_of_ble_eq_true rfl) (c_X3_note hS tn hn) ?_
  rintro _ _ ⟨rfl, hq⟩
  obtain rfl := hq.symm
  refine x_pushI ?_
  refine x_ri (pc := 58) dX7_reading_58 rfl rfl ?_
  exact ⟨rfl, rfl⟩
theorem c_X8_reading_a {d : Nat} {w : mW} {b l f : Int32} (hS : Shape w) (h : ¬ (0 ≤ b ∧ b < fld w 44 5)) : mC (d + 1) kX8_reading [.ref 44, .int b, .int l, .int f] w (fun r w' => r = some (.int (-1)) ∧ w' = w) := by
  refine mC.of (L := [_, _, _, _]) okX8_reading 0 rfl rfl ?_
  refine x_aload_n (pc := 0) (i := 0) dX8_reading_0 rfl rfl ?_
  refine x_iload_n (pc := 1) (i := 1) dX8_reading_1 rfl rfl ?_
  refine x_vs (pc := 2) (As := [_]) rfl hS lX8_152 dX8_reading_2 rfl rfl (Nat.le_of_ble_eq_true rfl) (c_X8_isBarrow hS) ?_
  rintro _ _ ⟨rfl, hq⟩
  obtain rfl := hq.symm
  refine x_pushI ?_
  refine x_if_ne (pc := 5) (tgt := 10) dX8_reading_5 (by decide) (fun h5 => absurd h5 (by rw [b2_n0]; exact h)) (fun h5 => ?_)
  refine x_iconst (pc := 8) (v := (-1)) dX8_reading_8 (by decide) ?_
  refine x_ri (pc := 9) dX8_reading_9 rfl rfl ?_
  exact ⟨rfl, rfl⟩
theorem c_X8_reading_b {d : Nat} {w : mW} {b l f : Int32} (hS : Shape w) (h : 0 ≤ b ∧ b < fld w 44 5) (hl : ¬ ((0 ≤ l ∧ l ≤ 9) ∧ 0 ≤ f ∧ f ≤ 1)) : mC (d + 1) kX8_reading [.ref 44, .int b, .int l, .int f] w (fun r w' => r = some (.int (-2)) ∧ w' = w) := by
  refine mC.of (L := [_, _, _, _]) okX8_reading 0 rfl rfl ?_
  refine x_aload_n (pc := 0) (i := 0) dX8_reading_0 rfl rfl ?_
  refine x_iload_n (pc := 1) (i := 1) dX8_reading_1 rfl rfl ?_
  refine x_vs (pc := 2) (As := [_]) rfl hS lX8_152 dX8_reading_2 rfl rfl (Nat.le_of_ble_eq_true rfl) (c_X8_isBarrow hS) ?_
  rintro _ _ ⟨rfl, hq⟩
  obtain rfl := hq.symm
  refine x_pushI ?_
  refine x_if_ne (pc := 5) (tgt := 10) dX8_reading_5 (by decide) (fun h5 => ?_) (fun h5 => absurd h5 (by rw [b2_n0]; exact h))
  refine x_iload_n (pc := 10) (i := 2) dX8_reading_10 rfl rfl ?_
  refine x_iconst (pc := 11) (v := 0) dX8_reading_11 (by decide) ?_
  refine x_bipush (pc := 12) (v := 9) dX8_reading_12 (by decide) ?_
  refine x_ss (pc := 14) (As := [_, _, _]) rfl lX8_88 dX8_reading_14 rfl (Nat.le_of_ble_eq_true rfl) c_X8_within ?_
  rintro _ _ ⟨rfl, hq⟩
  obtain rfl := hq.symm
  refine x_pushI ?_
  refine x_if_eq (pc := 17) (tgt := 29) dX8_reading_17 (by decide) (fun h17 => ?_) (fun h17 => ?_)
  · refine x_bipush (pc := 29) (v := (-2)) dX8_reading_29 (by decide) ?_
    refine x_ri (pc := 31) dX8_reading_31 rfl rfl ?_
    exact ⟨rfl, rfl⟩
  · refine x_iload_n (pc := 20) (i := 3) dX8_reading_20 rfl rfl ?_
    refine x_iconst (pc := 21) (v := 0) dX8_reading_21 (by decide) ?_
    refine x_iconst (pc := 22) (v := 1) dX8_reading_22 (by decide) ?_
    refine x_ss (pc := 23) (As := [_, _, _]) rfl lX8_88 dX8_reading_23 rfl (Nat.le_of_ble_eq_true rfl) c_X8_within ?_
    rintro _ _ ⟨rfl, hq⟩
    obtain rfl := hq.symm
    refine x_pushI ?_
    refine x_if_ne (pc := 26) (tgt := 32) dX8_reading_26 (by decide) (fun h26 => ?_) (fun h26 => ?_)
    · exfalso; (try simp only [b2_e0, b2_n0, Decidable.not_not] at *) <;> (try simp only [i_lt, i_le, i_eq, not_and, not_or, ne_eq, il_0, il_1, il_2, il_3, il_4, il_5, il_6, il_7, il_8, il_9, il_10, il_14, il_15, il_19, il_20, il_24, il_30, il_31, il_44, il_48, il_49, il_52, il_57, il_59, il_60, il_70, il_99, il_100, il_103, il_108, il_114, il_m1, il_m2, il_m3, il_m4, il_m9, il_m10, il_m100] at *) <;> omega
    · refine x_bipush (pc := 29) (v := (-2)) dX8_reading_29 (by decide) ?_
      refine x_ri (pc := 31) dX8_reading_31 rfl rfl ?_
      exact ⟨rfl, rfl⟩
theorem c_X8_reading_c {d : Nat} {w : mW} {b l f : Int32} (hS : Shape w) (h : 0 ≤ b ∧ b < fld w 44 5) (hl : (0 ≤ l ∧ l ≤ 9) ∧ 0 ≤ f ∧ f ≤ 1) (hr : fld w 44 32 = 8) : mC (d + 1) kX8_reading [.ref 44, .int b, .int l, .int f] w (fun r w' => r = some (.int (-4)) ∧ w' = w) := by
  refine mC.of (L := [_, _, _, _]) okX8_reading 0 rfl rfl ?_
  refine x_aload_n (pc := 0) (i := 0) dX8_reading_0 rfl rfl ?_
  refine x_iload_n (pc := 1) (i := 1) dX8_reading_1 rfl rfl ?_
  refine x_vs (pc := 2) (As := [_]) rfl hS lX8_152 dX8_reading_2 rfl rfl (Nat.le_of_ble_eq_true rfl) (c_X8_isBarrow hS) ?_
  rintro _ _ ⟨rfl, hq⟩
  obtain rfl := hq.symm
  refine x_pushI ?_
  refine x_if_ne (pc := 5) (tgt := 10) dX8_reading_5 (by decide) (fun h5 => ?_) (fun h5 => absurd h5 (by rw [b2_n0]; exact h))
  refine x_iload_n (pc := 10) (i := 2) dX8_reading_10 rfl rfl ?_
  refine x_iconst (pc := 11) (v := 0) dX8_reading_11 (by decide) ?_
  refine x_bipush (pc := 12) (v := 9) dX8_reading_12 (by decide) ?_
  refine x_ss (pc := 14) (As := [_, _, _]) rfl lX8_88 dX8_reading_14 rfl (Nat.le_of_ble_eq_true rfl) c_X8_within ?_
  rintro _ _ ⟨rfl, hq⟩
  obtain rfl := hq.symm
  refine x_pushI ?_
  refine x_if_eq (pc := 17) (tgt := 29) dX8_reading_17 (by decide) (fun h17 => absurd h17 (by rw [b2_e0]; exact not_not_intro hl.1)) (fun h17 => ?_)
  refine x_iload_n (pc := 20) (i := 3) dX8_reading_20 rfl rfl ?_
  refine x_iconst (pc := 21) (v := 0) dX8_reading_21 (by decide) ?_
  refine x_iconst (pc := 22) (v := 1) dX8_reading_22 (by decide) ?_
  refine x_ss (pc := 23) (As := [_, _, _]) rfl lX8_88 dX8_reading_23 rfl (Nat.le_of_ble_eq_true rfl) c_X8_within ?_
  rintro _ _ ⟨rfl, hq⟩
  obtain rfl := hq.symm
  refine x_pushI ?_
  refine x_if_ne (pc := 26) (tgt := 32) dX8_reading_26 (by decide) (fun h26 => ?_) (fun h26 => absurd h26 (by rw [b2_n0]; exact hl.2))
  refine x_aload_n (pc := 32) (i := 0) dX8_reading_32 rfl rfl ?_
  refine x_getI (pc := 33) hS fX8_131 dX8_reading_33 rfl rfl ?_
  refine x_bipush (pc := 36) (v := 8) dX8_reading_36 (by decide) ?_
  refine x_icmp_ne (pc := 38) (tgt := 44) dX8_reading_38 (by decide) (fun h38 => absurd h38 (by exact not_not_intro hr)) (fun h38 => ?_)
  refine x_bipush (pc := 41) (v := (-4)) dX8_reading_41 (by decide) ?_
  refine x_ri (pc := 43) dX8_reading_43 rfl rfl ?_
  exact ⟨rfl, rfl⟩
theorem c_X8_reading_d {d : Nat} {w : mW} {b l f : Int32} {n : Nat} (hS0 : Shape w) (h : 0 ≤ b ∧ b < fld w 44 5) (hl : (0 ≤ l ∧ l ≤ 9) ∧ 0 ≤ f ∧ f ≤ 1) (tn : (fld w 44 32).toInt = (n : Int)) (hn : n < 8) : mC (d + 1) kX8_reading [.ref 44, .int b, .int l, .int f] w (fun r w' => r = some (.int (nI n)) ∧ w' = rdW 66 67 68 44 32 n b l f w) := by
  have ec := nI_ofT tn (by omega)
  have hS := hS0
  refine mC.of (L := [_, _, _, _]) okX8_reading 0 rfl rfl ?_
  refine x_aload_n (pc := 0) (i := 0) dX8_reading_0 rfl rfl ?_
  refine x_iload_n (pc := 1) (i := 1) dX8_reading_1 rfl rfl ?_
  refine x_vs (pc := 2) (As := [_]) rfl hS lX8_152 dX8_reading_2 rfl rfl (Nat.le_of_ble_eq_true rfl) (c_X8_isBarrow hS) ?_
  rintro _ _ ⟨rfl, hq⟩
  obtain rfl := hq.symm
  refine x_pushI ?_
  refine x_if_ne (pc := 5) (tgt := 10) dX8_reading_5 (by decide) (fun h5 => ?_) (fun h5 => absurd h5 (by rw [b2_n0]; exact h))
  refine x_iload_n (pc := 10) (i := 2) dX8_reading_10 rfl rfl ?_
  refine x_iconst (pc := 11) (v := 0) dX8_reading_11 (by decide) ?_
  refine x_bipush (pc := 12) (v := 9) dX8_reading_12 (by decide) ?_
  refine x_ss (pc := 14) (As := [_, _, _]) rfl lX8_88 dX8_reading_14 rfl (Nat.le_of_ble_eq_true rfl) c_X8_within ?_
  rintro _ _ ⟨rfl, hq⟩
  obtain rfl := hq.symm
  refine x_pushI ?_
  refine x_if_eq (pc := 17) (tgt := 29) dX8_reading_17 (by decide) (fun h17 => absurd h17 (by rw [b2_e0]; exact not_not_intro hl.1)) (fun h17 => ?_)
  refine x_iload_n (pc := 20) (i := 3) dX8_reading_20 rfl rfl ?_
  refine x_iconst (pc := 21) (v := 0) dX8_reading_21 (by decide) ?_
  refine x_iconst (pc := 22) (v := 1) dX8_reading_22 (by decide) ?_
  refine x_ss (pc := 23) (As := [_, _, _]) rfl lX8_88 dX8_reading_23 rfl (Nat.le_of_ble_eq_true rfl) c_X8_within ?_
  rintro _ _ ⟨rfl, hq⟩
  obtain rfl := hq.symm
  refine x_pushI ?_
  refine x_if_ne (pc := 26) (tgt := 32) dX8_reading_26 (by decide) (fun h26 => ?_) (fun h26 => absurd h26 (by rw [b2_n0]; exact hl.2))
  refine x_aload_n (pc := 32) (i := 0) dX8_reading_32 rfl rfl ?_
  refine x_getI (pc := 33) hS fX8_131 dX8_reading_33 rfl rfl ?_
  refine x_bipush (pc := 36) (v := 8) dX8_reading_36 (by decide) ?_
  refine x_icmp_ne (pc := 38) (tgt := 44) dX8_reading_38 (by decide) (fun h38 => ?_) (fun h38 => absurd h38 (by (try simp only [b2_e0, b2_n0, Decidable.not_not] at *) <;> (try simp only [i_lt, i_le, i_eq, not_and, not_or, ne_eq, il_0, il_1, il_2, il_3, il_4, il_5, il_6, il_7, il_8, il_9, il_10, il_14, il_15, il_19, il_20, il_24, il_30, il_31, il_44, il_48, il_49, il_52, il_57, il_59, il_60, il_70, il_99, il_100, il_103, il_108, il_114, il_m1, il_m2, il_m3, il_m4, il_m9, il_m10, il_m100] at *) <;> omega))
  refine x_aload_n (pc := 44) (i := 0) dX8_reading_44 rfl rfl ?_
  refine x_getR (pc := 45) hS fX8_73 dX8_reading_45 rfl rfl ?_
  refine x_aload_n (pc := 48) (i := 0) dX8_reading_48 rfl rfl ?_
  refine x_getI (pc := 49) hS fX8_131 dX8_reading_49 rfl rfl ?_
  rw [ec]
  refine x_iload_n (pc := 52) (i := 1) dX8_reading_52 rfl rfl ?_
  refine x_astN (pc := 53) hS dX8_reading_53 rfl (by omega) (by decide) (fun hS => ?_)
  refine x_aload_n (pc := 54) (i := 0) dX8_reading_54 rfl rfl ?_
  refine x_getR (pc := 55) hS fX8_76 dX8_reading_55 rfl rfl ?_
  refine x_aload_n (pc := 58) (i := 0) dX8_reading_58 rfl rfl ?_
  refine x_getI (pc := 59) hS fX8_131 dX8_reading_59 rfl rfl ?_
  rw [fld_setA, ec]
  refine x_iload_n (pc := 62) (i := 2) dX8_reading_62 rfl rfl ?_
  refine x_astN (pc := 63) hS dX8_reading_63 rfl (by omega) (by decide) (fun hS => ?_)
  refine x_aload_n (pc := 64) (i := 0) dX8_reading_64 rfl rfl ?_
  refine x_getR (pc := 65) hS fX8_79 dX8_reading_65 rfl rfl ?_
  refine x_aload_n (pc := 68) (i := 0) dX8_reading_68 rfl rfl ?_
  refine x_getI (pc := 69) hS fX8_131 dX8_reading_69 rfl rfl ?_
  rw [fld_setA, fld_setA, ec]
  refine x_iload_n (pc := 72) (i := 3) dX8_reading_72 rfl rfl ?_
  refine x_astN (pc := 73) hS dX8_reading_73 rfl (by omega) (by decide) (fun hS => ?_)
  refine x_aload_n (pc := 74) (i := 0) dX8_reading_74 rfl rfl ?_
  refine x_dup (pc := 75) dX8_reading_75 rfl ?_
  refine x_getI (pc := 76) hS fX8_131 dX8_reading_76 rfl rfl ?_
  rw [fld_setA, fld_setA, fld_setA, ec]
  refine x_iconst (pc := 79) (v := 1) dX8_reading_79 (by decide) ?_
  refine x_iadd (pc := 80) dX8_reading_80 ?_
  rw [nI_1]
  refine x_putI (pc := 81) hS fX8_131 dX8_reading_81 rfl rfl rfl rfl (fun hS => ?_)
  refine x_aload_n (pc := 84) (i := 0) dX8_reading_84 rfl rfl ?_
  refine x_getI (pc := 85) hS fX8_131 dX8_reading_85 rfl rfl ?_
  rw [fld_setF ((hS0.stA _ _).stA _ _ |>.stA _ _) rfl rfl]
  refine x_iconst (pc := 88) (v := 1) dX8_reading_88 (by decide) ?_
  refine x_isub (pc := 89) dX8_reading_89 ?_
  rw [nI_pred]
  refine x_ri (pc := 90) dX8_reading_90 rfl rfl ?_
  refine ⟨rfl, ?_⟩
  unfold rdW
  rw [arr_setA_a (by decide), arr_setA_a (by decide), arr_setA_a (by decide)]
theorem both_reading {w : mW} (hI : Inv w) (b l f : Int32) : Both kX7_reading kX8_reading [.int b, .int l, .int f] w := by
  intro d
  obtain ⟨hS, nb, nw, nr, hD, hR, hSI, hT⟩ := id hI; obtain ⟨h1, h2, h3, tb, tw, hB, hW, ⟨e1, e2, e3⟩, f8, f9, f10, f11, f12, f13, f14, f15, f16⟩ := id hD
  obtain ⟨r1, r2, r3, r4, r5, r6, r7⟩ := id hR
  by_cases hb : 0 ≤ b ∧ b < fld w 7 0
  · by_cases hl : (0 ≤ l ∧ l ≤ 9) ∧ 0 ≤ f ∧ f ≤ 1
    · by_cases hn : nr < 8
      · refine mC.mono (c_X7_reading_d (d := d + 18) hS hb hl r2 hn) ?_
        rintro _ w1 ⟨rfl, hq⟩
        have hS1 : Shape w1 := by rw [hq]; exact ((hS.stA _ _).stA _ _ |>.stA _ _).stF rfl rfl _
        have g1 : Gr [41, 42, 43] [(40, 3)] w w1 := by rw [hq]; exact (((Gr.rf.stA (by decide) _).stA (by decide) _).stA (by decide) _).stF (by decide) _
        refine mC.mono (c_X8_reading_d (d := d + 19) (w := w1) hS1 (by rw [g1.2 44 5 (by decide), e1]; exact hb) hl (by rw [g1.2 44 32 (by decide), r4]; exact r2) hn) ?_
        rintro _ w2 ⟨rfl, hq2⟩
        have hS2 : Shape w2 := by rw [hq2]; exact ((hS1.stA _ _).stA _ _ |>.stA _ _).stF rfl rfl _
        have g2 : Gr [66, 67, 68] [(44, 32)] w1 w2 := by rw [hq2]; exact (((Gr.rf.stA (by decide) _).stA (by decide) _).stA (by decide) _).stF (by decide) _
        have g : Gr [41, 42, 43, 66, 67, 68] [(40, 3), (44, 32)] w w2 := (g1.up (by decide) (by decide)).tr (g2.up (by decide) (by decide))
        have q41 : arr w1 41 = upd (arr w 41) nr b := by rw [hq]; unfold rdW; rw [arr_setF, arr_setA_a (by decide), arr_setA_a (by decide), arr_setA hS rfl]
        have q42 : arr w1 42 = upd (arr w 42) nr l := by rw [hq]; unfold rdW; rw [arr_setF, arr_setA_a (by decide), arr_setA (hS.stA _ _) rfl]
        have q43 : arr w1 43 = upd (arr w 43) nr f := by rw [hq]; unfold rdW; rw [arr_setF, arr_setA ((hS.stA _ _).stA _ _) rfl]
        have q66 : arr w2 66 = upd (arr w1 66) nr b := by rw [hq2]; unfold rdW; rw [arr_setF, arr_setA_a (by decide), arr_setA_a (by decide), arr_setA hS1 rfl]
        have q67 : arr w2 67 = upd (arr w1 67) nr l := by rw [hq2]; unfold rdW; rw [arr_setF, arr_setA_a (by decide), arr_setA (hS1.stA _ _) rfl]
        have q68 : arr w2 68 = upd (arr w1 68) nr f := by rw [hq2]; unfold rdW; rw [arr_setF, arr_setA ((hS1.stA _ _).stA _ _) rfl]
        have c1 : fld w1 40 3 = nI (nr + 1) := by rw [hq]; unfold rdW; exact fld_setF ((hS.stA _ _).stA _ _ |>.stA _ _) rfl rfl _
        have c2 : fld w2 44 32 = nI (nr + 1) := by rw [hq2]; unfold rdW; exact fld_setF ((hS1.stA _ _).stA _ _ |>.stA _ _) rfl rfl _
        refine ⟨rfl, hS2, nb, nw, nr + 1, hD.gr g (by decide) (by decide), ⟨by omega, ?_, ?_, ?_, ?_, ?_, ?_⟩, hSI.gr g (by decide), hT.gr g (by decide)⟩
        · rw [g2.2 40 3 (by decide), c1, nI_toInt (by omega)]
        · intro r hr
          rw [g2.1 41 (by decide), q41]
          unfold upd
          split
          · obtain ⟨j, hj, rfl⟩ := in_nI tb (by omega) hb
            exact ⟨j, hj, rfl⟩
          · exact r3 r (by omega)
        · rw [c2, g2.2 40 3 (by decide), c1]
        · rw [q66, g1.1 66 (by decide), r5, g2.1 41 (by decide), q41]
        · rw [q67, g1.1 67 (by decide), r6, g2.1 42 (by decide), q42]
        · rw [q68, g1.1 68 (by decide), r7, g2.1 43 (by decide), q43]
      · refine mC.mono (c_X7_reading_c (d := d + 19) hS hb hl (by (try simp only [b2_e0, b2_n0, Decidable.not_not] at *) <;> (try simp only [i_lt, i_le, i_eq, not_and, not_or, ne_eq, il_0, il_1, il_2, il_3, il_4, il_5, il_6, il_7, il_8, il_9, il_10, il_14, il_15, il_19, il_20, il_24, il_30, il_31, il_44, il_48, il_49, il_52, il_57, il_59, il_60, il_70, il_99, il_100, il_103, il_108, il_114, il_m1, il_m2, il_m3, il_m4, il_m9, il_m10, il_m100] at *) <;> omega)) ?_
        rintro _ _ ⟨rfl, hq⟩; obtain rfl := hq.symm
        refine mC.mono (c_X8_reading_c (d := d + 19) hS (by rw [e1]; exact hb) hl (by rw [r4]; (try simp only [b2_e0, b2_n0, Decidable.not_not] at *) <;> (try simp only [i_lt, i_le, i_eq, not_and, not_or, ne_eq, il_0, il_1, il_2, il_3, il_4, il_5, il_6, il_7, il_8, il_9, il_10, il_14, il_15, il_19, il_20, il_24, il_30, il_31, il_44, il_48, il_49, il_52, il_57, il_59, il_60, il_70, il_99, il_100, il_103, il_108, il_114, il_m1, il_m2, il_m3, il_m4, il_m9, il_m10, il_m100] at *) <;> omega)) ?_
        rintro _ _ ⟨rfl, hq⟩; obtain rfl := hq.symm
        exact ⟨rfl, hI⟩
    · refine mC.mono (c_X7_reading_b (d := d + 19) hS hb hl) ?_
      rintro _ _ ⟨rfl, hq⟩; obtain rfl := hq.symm
      refine mC.mono (c_X8_reading_b (d := d + 19) hS (by rw [e1]; exact hb) hl) ?_
      rintro _ _ ⟨rfl, hq⟩; obtain rfl := hq.symm
      exact ⟨rfl, hI⟩
  · refine mC.mono (c_X7_reading_a (d := d + 19) hS hb) ?_
    rintro _ _ ⟨rfl, hq⟩; obtain rfl := hq.symm
    refine mC.mono (c_X8_reading_a (d := d + 19) hS (by rw [e1]; exact hb)) ?_
    rintro _ _ ⟨rfl, hq⟩; obtain rfl := hq.symm
    exact ⟨rfl, hI⟩
theorem c_X7_back_a {d : Nat} {w : mW} {k : Int32} (hS : Shape w) (h : ¬ (0 ≤ k ∧ k ≤ fld w 40 3)) : mC d kX7_back [.ref 0, .int k] w (fun r w' => r = some (.int (-2)) ∧ w' = w) := by
  refine mC.of (L := [_, _]) okX7_back 0 rfl rfl ?_
  refine x_iload_n (pc := 0) (i := 1) dX7_back_0 rfl rfl ?_
  refine x_if_lt (pc := 1) (tgt := 15) dX7_back_1 (by decide) (fun h1 => ?_) (fun h1 => ?_)
  · refine x_bipush (pc := 15) (v := (-2)) dX7_back_15 (by decide) ?_
    refine x_ri (pc := 17) dX7_back_17 rfl rfl ?_
    exact ⟨rfl, rfl⟩
  · refine x_iload_n (pc := 4) (i := 1) dX7_back_4 rfl rfl ?_
    refine x_aload_n (pc := 5) (i := 0) dX7_back_5 rfl rfl ?_
    refine x_getR (pc := 6) hS fX7_56 dX7_back_6 rfl rfl ?_
    refine x_getI (pc := 9) hS fX7_94 dX7_back_9 rfl rfl ?_
    refine x_icmp_le (pc := 12) (tgt := 18) dX7_back_12 (by decide) (fun h12 => ?_) (fun h12 => ?_)
    · exfalso; (try simp only [b2_e0, b2_n0, Decidable.not_not] at *) <;> (try simp only [i_lt, i_le, i_eq, not_and, not_or, ne_eq, il_0, il_1, il_2, il_3, il_4, il_5, il_6, il_7, il_8, il_9, il_10, il_14, il_15, il_19, il_20, il_24, il_30, il_31, il_44, il_48, il_49, il_52, il_57, il_59, il_60, il_70, il_99, il_100, il_103, il_108, il_114, il_m1, il_m2, il_m3, il_m4, il_m9, il_m10, il_m100] at *) <;> omega
    · refine x_bipush (pc := 15) (v := (-2)) dX7_back_15 (by decide) ?_
      refine x_ri (pc := 17) dX7_back_17 rfl rfl ?_
      exact ⟨rfl, rfl⟩
theorem c_X7_back_b {d : Nat} {w : mW} {k : Int32} (hS0 : Shape w) (h : 0 ≤ k ∧ k ≤ fld w 40 3) : mC d kX7_back [.ref 0, .int k] w (fun r w' => r = some (.int (fld w 40 3 - k)) ∧ w' = setF w 40 3 (fld w 40 3 - k)) := by
  have hS := hS0
  refine mC.of (L := [_, _]) okX7_back 0 rfl rfl ?_
  refine x_iload_n (pc := 0) (i := 1) dX7_back_0 rfl rfl ?_
  refine x_if_lt (pc := 1) (tgt := 15) dX7_back_1 (by decide) (fun h1 => absurd h1 (by (try simp only [b2_e0, b2_n0, Decidable.not_not] at *) <;> (try simp only [i_lt, i_le, i_eq, not_and, not_or, ne_eq, il_0, il_1, il_2, il_3, il_4, il_5, il_6, il_7, il_8, il_9, il_10, il_14, il_15, il_19, il_20, il_24, il_30, il_31, il_44, il_48, il_49, il_52, il_57, il_59, il_60, il_70, il_99, il_100, il_103, il_108, il_114, il_m1, il_m2, il_m3, il_m4, il_m9, il_m10, il_m100] at *) <;> omega)) (fun h1 => ?_)
  refine x_iload_n (pc := 4) (i := 1) dX7_back_4 rfl rfl ?_
  refine x_aload_n (pc := 5) (i := 0) dX7_back_5 rfl rfl ?_
  refine x_getR (pc := 6) hS fX7_56 dX7_back_6 rfl rfl ?_
  refine x_getI (pc := 9) hS fX7_94 dX7_back_9 rfl rfl ?_
  refine x_icmp_le (pc := 12) (tgt := 18) dX7_back_12 (by decide) (fun h12 => ?_) (fun h12 => absurd h12 (by (try simp only [b2_e0, b2_n0, Decidable.not_not] at *) <;> (try simp only [i_lt, i_le, i_eq, not_and, not_or, ne_eq, il_0, il_1, il_2, il_3, il_4, il_5, il_6, il_7, il_8, il_9, il_10, il_14, il_15, il_19, il_20, il_24, il_30, il_31, il_44, il_48, il_49, il_52, il_57, il_59, il_60, il_70, il_99, il_100, il_103, il_108, il_114, il_m1, il_m2, il_m3, il_m4, il_m9, il_m10, il_m100] at *) <;> omega))
  refine x_aload_n (pc := 18) (i := 0) dX7_back_18 rfl rfl ?_
  refine x_getR (pc := 19) hS fX7_56 dX7_back_19 rfl rfl ?_
  refine x_dup (pc := 22) dX7_back_22 rfl ?_
  refine x_getI (pc := 23) hS fX7_94 dX7_back_23 rfl rfl ?_
  refine x_iload_n (pc := 26) (i := 1) dX7_back_26 rfl rfl ?_
  refine x_isub (pc := 27) dX7_back_27 ?_
  refine x_putI (pc := 28) hS fX7_94 dX7_back_28 rfl rfl rfl rfl (fun hS => ?_)
  refine x_aload_n (pc := 31) (i := 0) dX7_back_31 rfl rfl ?_
  refine x_getR (pc := 32) hS fX7_56 dX7_back_32 rfl rfl ?_
  refine x_getI (pc := 35) hS fX7_94 dX7_back_35 rfl rfl ?_
  refine x_ri (pc := 38) dX7_back_38 rfl rfl ?_
  exact ⟨by rw [fld_setF hS0 rfl rfl], rfl⟩
theorem c_X8_back_a {d : Nat} {w : mW} {k : Int32} (hS : Shape w) (h : ¬ (0 ≤ k ∧ k ≤ fld w 44 32)) : mC (d + 1) kX8_back [.ref 44, .int k] w (fun r w' => r = some (.int (-2)) ∧ w' = w) := by
  refine mC.of (L := [_, _]) okX8_back 0 rfl rfl ?_
  refine x_iload_n (pc := 0) (i := 1) dX8_back_0 rfl rfl ?_
  refine x_iconst (pc := 1) (v := 0) dX8_back_1 (by decide) ?_
  refine x_aload_n (pc := 2) (i := 0) dX8_back_2 rfl rfl ?_
  refine x_getI (pc := 3) hS fX8_131 dX8_back_3 rfl rfl ?_
  refine x_ss (pc := 6) (As := [_, _, _]) rfl lX8_88 dX8_back_6 rfl (Nat.le_of_ble_eq_true rfl) c_X8_within ?_
  rintro _ _ ⟨rfl, hq⟩
  obtain rfl := hq.symm
  refine x_pushI ?_
  refine x_if_ne (pc := 9) (tgt := 15) dX8_back_9 (by decide) (fun h9 => absurd h9 (by rw [b2_n0]; exact h)) (fun h9 => ?_)
  refine x_bipush (pc := 12) (v := (-2)) dX8_back_12 (by decide) ?_
  refine x_ri (pc := 14) dX8_back_14 rfl rfl ?_
  exact ⟨rfl, rfl⟩
theorem c_X8_back_b {d : Nat} {w : mW} {k : Int32} (hS0 : Shape w) (h : 0 ≤ k ∧ k ≤ fld w 44 32) : mC (d + 1) kX8_back [.ref 44, .int k] w (fun r w' => r = some (.int (fld w 44 32 - k)) ∧ w' = setF w 44 32 (fld w 44 32 - k)) := by
  have hS := hS0
  refine mC.of (L := [_, _]) okX8_back 0 rfl rfl ?_
  refine x_iload_n (pc := 0) (i := 1) dX8_back_0 rfl rfl ?_
  refine x_iconst (pc := 1) (v := 0) dX8_back_1 (by decide) ?_
  refine x_aload_n (pc := 2) (i := 0) dX8_back_2 rfl rfl ?_
  refine x_getI (pc := 3) hS fX8_131 dX8_back_3 rfl rfl ?_
  refine x_ss (pc := 6) (As := [_, _, _]) rfl lX8_88 dX8_back_6 rfl (Nat.le_of_ble_eq_true rfl) c_X8_within ?_
  rintro _ _ ⟨rfl, hq⟩
  obtain rfl := hq.symm
  refine x_pushI ?_
  refine x_if_ne (pc := 9) (tgt := 15) dX8_back_9 (by decide) (fun h9 => ?_) (fun h9 => absurd h9 (by rw [b2_n0]; exact h))
  refine x_aload_n (pc := 15) (i := 0) dX8_back_15 rfl rfl ?_
  refine x_dup (pc := 16) dX8_back_16 rfl ?_
  refine x_getI (pc := 17) hS fX8_131 dX8_back_17 rfl rfl ?_
  refine x_iload_n (pc := 20) (i := 1) dX8_back_20 rfl rfl ?_
  refine x_isub (pc := 21) dX8_back_21 ?_
  refine x_putI (pc := 22) hS fX8_131 dX8_back_22 rfl rfl rfl rfl (fun hS => ?_)
  refine x_aload_n (pc := 25) (i := 0) dX8_back_25 rfl rfl ?_
  refine x_getI (pc := 26) hS fX8_131 dX8_back_26 rfl rfl ?_
  refine x_ri (pc := 29) dX8_back_29 rfl rfl ?_
  exact ⟨by rw [fld_setF hS0 rfl rfl], rfl⟩
theorem both_back {w : mW} (hI : Inv w) (k : Int32) : Both kX7_back kX8_back [.int k] w := by
  intro d
  obtain ⟨hS, nb, nw, nr, hD, hR, hSI, hT⟩ := id hI; obtain ⟨h1, h2, h3, tb, tw, hB, hW, ⟨e1, e2, e3⟩, f8, f9, f10, f11, f12, f13, f14, f15, f16⟩ := id hD
  obtain ⟨r1, r2, r3, r4, r5, r6, r7⟩ := id hR
  by_cases hk : 0 ≤ k ∧ k ≤ fld w 40 3
  · obtain ⟨j, hj, rfl⟩ : ∃ j : Nat, j < nr + 1 ∧ k = nI j := in_nI (x := nI (nr + 1)) (nI_toInt (by omega)) (by omega) ⟨hk.1, by have := i_le.mp hk.2; rw [i_lt, nI_toInt (by omega)]; omega⟩
    have ec := nI_ofT r2 (by omega)
    refine mC.mono (c_X7_back_b hS hk) ?_
    rw [ec, pk_sub (by omega)]
    rintro _ w1 ⟨rfl, hq⟩
    have hS1 : Shape w1 := by rw [hq]; exact hS.stF rfl rfl _
    have g1 : Gr [] [(40, 3)] w w1 := by rw [hq]; exact Gr.rf.stF (by decide) _
    refine mC.mono (c_X8_back_b (d := d + 19) (w := w1) hS1 (by rw [g1.2 44 32 (by decide), r4]; exact hk)) ?_
    rw [g1.2 44 32 (by decide), r4, ec, pk_sub (by omega)]
    rintro _ w2 ⟨rfl, hq2⟩
    have hS2 : Shape w2 := by rw [hq2]; exact hS1.stF rfl rfl _
    have g2 : Gr [] [(44, 32)] w1 w2 := by rw [hq2]; exact Gr.rf.stF (by decide) _
    have g : Gr [] [(40, 3), (44, 32)] w w2 := (g1.up (by decide) (by decide)).tr (g2.up (by decide) (by decide))
    have c1 : fld w2 40 3 = nI (nr - j) := by rw [g2.2 40 3 (by decide), hq, fld_setF hS rfl rfl]
    refine ⟨rfl, hS2, nb, nw, nr - j, hD.gr g (by decide) (by decide), ⟨by omega, ?_, ?_, ?_, ?_, ?_, ?_⟩, hSI.gr g (by decide), hT.gr g (by decide)⟩
    · rw [c1, nI_toInt (by omega)]
    · intro r hr
      rw [g.1 41 (by decide)]
      exact r3 r (by omega)
    · rw [c1, hq2, fld_setF hS1 rfl rfl]
    · rw [g.1 66 (by decide), g.1 41 (by decide), r5]
    · rw [g.1 67 (by decide), g.1 42 (by decide), r6]
    · rw [g.1 68 (by decide), g.1 43 (by decide), r7]
  · refine mC.mono (c_X7_back_a hS hk) ?_
    rintro _ _ ⟨rfl, hq⟩; obtain rfl := hq.symm
    refine mC.mono (c_X8_back_a (d := d + 19) hS (by rw [r4]; exact hk)) ?_
    rintro _ _ ⟨rfl, hq⟩; obtain rfl := hq.symm
    exact ⟨rfl, hI⟩

