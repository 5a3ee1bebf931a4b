-- sheets, the class
theorem ix60 (k i : Nat) : nI k * 60 + nI i = nI (60 * k + i) := by
  have : (60 : Int32) = nI 60 := rfl
  rw [this, pk_mul, nI_add, Nat.mul_comm]
theorem ix60' (k i : Nat) : 60 * nI k + nI i = nI (60 * k + i) := by
  have : (60 : Int32) = nI 60 := rfl
  rw [this, pk_mul, nI_add]
theorem k4 {k : Nat} (hk : k < 4) : (0 : Int32) ≤ nI k ∧ nI k < 4 := ⟨nI_pos' (by omega), by rw [i_lt, nI_toInt (by omega), il_4]; omega⟩
theorem c_hasN {d : Nat} {w : mW} {k : Nat} (hS : Shape w) (hk : k < 4) : mC (d + 1) kX5_hasNothing [.ref 1, .int (nI k)] w (fun r w' => r = some (.int (b2 (arr w 2 k = -1))) ∧ w' = w) := by
  refine mC.mono (c_X5_hasNothing hS) ?_
  rintro _ _ ⟨rfl, rfl⟩
  rw [nI_clamp (by omega)]
  exact ⟨by rw [b2_c ⟨fun q => q.elim (fun z => absurd (k4 hk) z) id, Or.inr⟩], rfl⟩
def fRow (L lane : Int32) : Int32 := if L = -1 then 1 else if L = lane then 0 else 2
theorem c_X5_faultOfRow {d : Nat} {w : mW} {k : Nat} {lane : Int32} (hS : Shape w) (hk : k < 4) : mC (d + 2) kX5_faultOfRow [.ref 1, .int (nI k), .int lane] w (fun r w' => r = some (.int (fRow (arr w 2 k) lane)) ∧ w' = w) := by
  unfold fRow
  refine mC.of (L := [_, _, _]) okX5_faultOfRow 0 rfl rfl ?_
  refine x_aload_n (pc := 0) (i := 0) dX5_faultOfRow_0 rfl rfl ?_
  refine x_iload_n (pc := 1) (i := 1) dX5_faultOfRow_1 rfl rfl ?_
  refine x_vs (pc := 2) (As := [_]) rfl hS lX5_25 dX5_faultOfRow_2 rfl rfl (Nat.le_of_ble_eq_true rfl) (c_hasN hS hk) ?_
  rintro _ _ ⟨rfl, hq⟩
  obtain rfl := hq.symm
  refine x_pushI ?_
  refine x_if_eq (pc := 5) (tgt := 10) dX5_faultOfRow_5 (by decide) (fun h5 => ?_) (fun h5 => ?_)
  · refine x_aload_n (pc := 10) (i := 0) dX5_faultOfRow_10 rfl rfl ?_
    refine x_getR (pc := 11) hS fX5_11 dX5_faultOfRow_11 rfl rfl ?_
    refine x_iload_n (pc := 14) (i := 1) dX5_faultOfRow_14 rfl rfl ?_
    refine x_aldN (pc := 15) hS dX5_faultOfRow_15 rfl (by omega) (by decide) ?_
    refine x_iload_n (pc := 16) (i := 2) dX5_faultOfRow_16 rfl rfl ?_
    refine x_icmp_ne (pc := 17) (tgt := 24) dX5_faultOfRow_17 (by decide) (fun h17 => ?_) (fun h17 => ?_)
    · refine x_iconst (pc := 24) (v := 2) dX5_faultOfRow_24 (by decide) ?_
      refine x_ri (pc := 25) dX5_faultOfRow_25 rfl rfl ?_
      rw [if_neg (b2_e0.mp h5)]; first | (rw [if_pos h17]; exact ⟨rfl, rfl⟩) | (rw [if_neg h17]; exact ⟨rfl, rfl⟩)
    · refine x_iconst (pc := 20) (v := 0) dX5_faultOfRow_20 (by decide) ?_
      refine x_goto (pc := 21) (tgt := 25) dX5_faultOfRow_21 (by decide) ?_
      refine x_ri (pc := 25) dX5_faultOfRow_25 rfl rfl ?_
      rw [if_neg (b2_e0.mp h5)]; first | (rw [if_pos h17]; exact ⟨rfl, rfl⟩) | (rw [if_neg h17]; exact ⟨rfl, rfl⟩)
  · refine x_iconst (pc := 8) (v := 1) dX5_faultOfRow_8 (by decide) ?_
    refine x_ri (pc := 9) dX5_faultOfRow_9 rfl rfl ?_
    rw [if_pos (b2_n0.mp h5)]; exact ⟨rfl, rfl⟩
def fPair (L L' : Int32) : Int32 := if L = -1 ∨ L' = -1 then 1 else if L = L' then 0 else 2
theorem c_X5_faultOfPair {d : Nat} {w : mW} {k k' : Nat} (hS : Shape w) (hk : k < 4) (hk' : k' < 4) : mC (d + 2) kX5_faultOfPair [.ref 1, .int (nI k), .int (nI k')] w (fun r w' => r = some (.int (fPair (arr w 2 k) (arr w 2 k'))) ∧ w' = w) := by
  unfold fPair
  refine mC.of (L := [_, _, _]) okX5_faultOfPair 0 rfl rfl ?_
  refine x_aload_n (pc := 0) (i := 0) dX5_faultOfPair_0 rfl rfl ?_
  refine x_iload_n (pc := 1) (i := 1) dX5_faultOfPair_1 rfl rfl ?_
  refine x_vs (pc := 2) (As := [_]) rfl hS lX5_25 dX5_faultOfPair_2 rfl rfl (Nat.le_of_ble_eq_true rfl) (c_hasN hS hk) ?_
  rintro _ _ ⟨rfl, hq⟩
  obtain rfl := hq.symm
  refine x_pushI ?_
  refine x_if_ne (pc := 5) (tgt := 16) dX5_faultOfPair_5 (by decide) (fun h5 => ?_) (fun h5 => ?_)
  · refine x_iconst (pc := 16) (v := 1) dX5_faultOfPair_16 (by decide) ?_
    refine x_ri (pc := 17) dX5_faultOfPair_17 rfl rfl ?_
    rw [if_pos (by first | exact Or.inl (b2_n0.mp h5) | exact Or.inr (b2_n0.mp h13))]; exact ⟨rfl, rfl⟩
  · refine x_aload_n (pc := 8) (i := 0) dX5_faultOfPair_8 rfl rfl ?_
    refine x_iload_n (pc := 9) (i := 2) dX5_faultOfPair_9 rfl rfl ?_
    refine x_vs (pc := 10) (As := [_]) rfl hS lX5_25 dX5_faultOfPair_10 rfl rfl (Nat.le_of_ble_eq_true rfl) (c_hasN hS hk') ?_
    rintro _ _ ⟨rfl, hq⟩
    obtain rfl := hq.symm
    refine x_pushI ?_
    refine x_if_eq (pc := 13) (tgt := 18) dX5_faultOfPair_13 (by decide) (fun h13 => ?_) (fun h13 => ?_)
    · refine x_aload_n (pc := 18) (i := 0) dX5_faultOfPair_18 rfl rfl ?_
      refine x_getR (pc := 19) hS fX5_11 dX5_faultOfPair_19 rfl rfl ?_
      refine x_iload_n (pc := 22) (i := 1) dX5_faultOfPair_22 rfl rfl ?_
      refine x_aldN (pc := 23) hS dX5_faultOfPair_23 rfl (by omega) (by decide) ?_
      refine x_aload_n (pc := 24) (i := 0) dX5_faultOfPair_24 rfl rfl ?_
      refine x_getR (pc := 25) hS fX5_11 dX5_faultOfPair_25 rfl rfl ?_
      refine x_iload_n (pc := 28) (i := 2) dX5_faultOfPair_28 rfl rfl ?_
      refine x_aldN (pc := 29) hS dX5_faultOfPair_29 rfl (by omega) (by decide) ?_
      refine x_icmp_ne (pc := 30) (tgt := 37) dX5_faultOfPair_30 (by decide) (fun h30 => ?_) (fun h30 => ?_)
      · refine x_iconst (pc := 37) (v := 2) dX5_faultOfPair_37 (by decide) ?_
        refine x_ri (pc := 38) dX5_faultOfPair_38 rfl rfl ?_
        rw [if_neg (fun q => q.elim (b2_e0.mp h5) (b2_e0.mp h13))]; first | (rw [if_pos h30]; exact ⟨rfl, rfl⟩) | (rw [if_neg h30]; exact ⟨rfl, rfl⟩)
      · refine x_iconst (pc := 33) (v := 0) dX5_faultOfPair_33 (by decide) ?_
        refine x_goto (pc := 34) (tgt := 38) dX5_faultOfPair_34 (by decide) ?_
        refine x_ri (pc := 38) dX5_faultOfPair_38 rfl rfl ?_
        rw [if_neg (fun q => q.elim (b2_e0.mp h5) (b2_e0.mp h13))]; first | (rw [if_pos h30]; exact ⟨rfl, rfl⟩) | (rw [if_neg h30]; exact ⟨rfl, rfl⟩)
    · refine x_iconst (pc := 16) (v := 1) dX5_faultOfPair_16 (by decide) ?_
      refine x_ri (pc := 17) dX5_faultOfPair_17 rfl rfl ?_
      rw [if_pos (by first | exact Or.inl (b2_n0.mp h5) | exact Or.inr (b2_n0.mp h13))]; exact ⟨rfl, rfl⟩
def fCell (S i : Int32) : Int32 := if 0 ≤ i ∧ i < S then 0 else 3
theorem c_X5_faultOfCell {d : Nat} {w : mW} {k : Nat} {i : Int32} (hS : Shape w) (hk : k < 4) : mC (d + 1) kX5_faultOfCell [.ref 1, .int (nI k), .int i] w (fun r w' => r = some (.int (fCell (arr w 3 k) i)) ∧ w' = w) := by
  unfold fCell
  refine mC.of (L := [_, _, _]) okX5_faultOfCell 0 rfl rfl ?_
  refine x_iload_n (pc := 0) (i := 1) dX5_faultOfCell_0 rfl rfl ?_
  refine x_ss (pc := 1) (As := [_]) rfl lX5_21 dX5_faultOfCell_1 rfl (Nat.le_of_ble_eq_true rfl) c_X5_isSheet ?_
  rintro _ _ ⟨rfl, hq⟩
  obtain rfl := hq.symm
  refine x_pushI ?_
  refine x_if_eq (pc := 4) (tgt := 25) dX5_faultOfCell_4 (by decide) (fun h4 => absurd h4 (by rw [b2_e0]; exact not_not_intro (k4 hk))) (fun h4 => ?_)
  refine x_iload_n (pc := 7) (i := 2) dX5_faultOfCell_7 rfl rfl ?_
  refine x_if_lt (pc := 8) (tgt := 25) dX5_faultOfCell_8 (by decide) (fun h8 => ?_) (fun h8 => ?_)
  · refine x_iconst (pc := 25) (v := 3) dX5_faultOfCell_25 (by decide) ?_
    refine x_ri (pc := 26) dX5_faultOfCell_26 rfl rfl ?_
    exact ⟨by split <;> first | rfl | contradiction | (exfalso; (try simp only [b2_e0, b2_n0, Decidable.not_not] at *) <;> (try simp only [i_lt, i_le, i_eq, not_and, not_or, ne_eq, il_0, il_1, il_2, il_3, il_4, il_5, il_6, il_7, il_8, il_9, il_10, il_14, il_15, il_19, il_20, il_24, il_30, il_31, il_44, il_48, il_49, il_52, il_57, il_59, il_60, il_70, il_99, il_100, il_103, il_108, il_114, il_m1, il_m2, il_m3, il_m4, il_m9, il_m10, il_m100] at *) <;> omega), rfl⟩
  · refine x_iload_n (pc := 11) (i := 2) dX5_faultOfCell_11 rfl rfl ?_
    refine x_aload_n (pc := 12) (i := 0) dX5_faultOfCell_12 rfl rfl ?_
    refine x_getR (pc := 13) hS fX5_15 dX5_faultOfCell_13 rfl rfl ?_
    refine x_iload_n (pc := 16) (i := 1) dX5_faultOfCell_16 rfl rfl ?_
    refine x_aldN (pc := 17) hS dX5_faultOfCell_17 rfl (by omega) (by decide) ?_
    refine x_icmp_ge (pc := 18) (tgt := 25) dX5_faultOfCell_18 (by decide) (fun h18 => ?_) (fun h18 => ?_)
    · refine x_iconst (pc := 25) (v := 3) dX5_faultOfCell_25 (by decide) ?_
      refine x_ri (pc := 26) dX5_faultOfCell_26 rfl rfl ?_
      exact ⟨by split <;> first | rfl | contradiction | (exfalso; (try simp only [b2_e0, b2_n0, Decidable.not_not] at *) <;> (try simp only [i_lt, i_le, i_eq, not_and, not_or, ne_eq, il_0, il_1, il_2, il_3, il_4, il_5, il_6, il_7, il_8, il_9, il_10, il_14, il_15, il_19, il_20, il_24, il_30, il_31, il_44, il_48, il_49, il_52, il_57, il_59, il_60, il_70, il_99, il_100, il_103, il_108, il_114, il_m1, il_m2, il_m3, il_m4, il_m9, il_m10, il_m100] at *) <;> omega), rfl⟩
    · refine x_iconst (pc := 21) (v := 0) dX5_faultOfCell_21 (by decide) ?_
      refine x_goto (pc := 22) (tgt := 26) dX5_faultOfCell_22 (by decide) ?_
      refine x_ri (pc := 26) dX5_faultOfCell_26 rfl rfl ?_
      exact ⟨by split <;> first | rfl | contradiction | (exfalso; (try simp only [b2_e0, b2_n0, Decidable.not_not] at *) <;> (try simp only [i_lt, i_le, i_eq, not_and, not_or, ne_eq, il_0, il_1, il_2, il_3, il_4, il_5, il_6, il_7, il_8, il_9, il_10, il_14, il_15, il_19, il_20, il_24, il_30, il_31, il_44, il_48, il_49, il_52, il_57, il_59, il_60, il_70, il_99, il_100, il_103, il_108, il_114, il_m1, il_m2, il_m3, il_m4, il_m9, il_m10, il_m100] at *) <;> omega), rfl⟩
def fCells (S i n : Int32) : Int32 := if 0 ≤ i.toInt ∧ 0 ≤ n.toInt ∧ i.toInt + n.toInt ≤ S.toInt then 0 else 3
theorem l_le {a b : Int64} : a ≤ b ↔ a.toInt ≤ b.toInt := Int64.le_iff_toInt_le
theorem l_lt {a b : Int64} : a < b ↔ a.toInt < b.toInt := Int64.lt_iff_toInt_lt
theorem i_bd (a : Int32) : -2147483648 ≤ a.toInt ∧ a.toInt ≤ 2147483647 := ⟨by have := Int32.le_toInt a; simpa using this, by have := Int32.toInt_lt a; omega⟩
theorem l_add32 (a b : Int32) : (a.toInt64 + b.toInt64).toInt = a.toInt + b.toInt := by
  have h1 := i_bd a
  have h2 := i_bd b
  rw [Int64.toInt_add, Int32.toInt_toInt64, Int32.toInt_toInt64]
  exact Int.bmod_eq_of_le (by omega) (by omega)
theorem c_X5_faultOfCells {d : Nat} {w : mW} {k : Nat} {i n : Int32} (hS : Shape w) (hk : k < 4) : mC (d + 1) kX5_faultOfCells [.ref 1, .int (nI k), .int i, .int n] w (fun r w' => r = some (.int (fCells (arr w 3 k) i n)) ∧ w' = w) := by
  unfold fCells
  refine mC.of (L := [_, _, _, _]) okX5_faultOfCells 0 rfl rfl ?_
  refine x_iload_n (pc := 0) (i := 1) dX5_faultOfCells_0 rfl rfl ?_
  refine x_ss (pc := 1) (As := [_]) rfl lX5_21 dX5_faultOfCells_1 rfl (Nat.le_of_ble_eq_true rfl) c_X5_isSheet ?_
  rintro _ _ ⟨rfl, hq⟩
  obtain rfl := hq.symm
  refine x_pushI ?_
  refine x_if_eq (pc := 4) (tgt := 15) dX5_faultOfCells_4 (by decide) (fun h4 => absurd h4 (by rw [b2_e0]; exact not_not_intro (k4 hk))) (fun h4 => ?_)
  refine x_iload_n (pc := 7) (i := 2) dX5_faultOfCells_7 rfl rfl ?_
  refine x_if_lt (pc := 8) (tgt := 15) dX5_faultOfCells_8 (by decide) (fun h8 => ?_) (fun h8 => ?_)
  · refine x_iconst (pc := 15) (v := 3) dX5_faultOfCells_15 (by decide) ?_
    refine x_ri (pc := 16) dX5_faultOfCells_16 rfl rfl ?_
    rw [if_neg (by (try simp only [b2_e0, b2_n0, Decidable.not_not] at *) <;> (try simp only [i_lt, i_le, i_eq, not_and, not_or, ne_eq, il_0, il_1, il_2, il_3, il_4, il_5, il_6, il_7, il_8, il_9, il_10, il_14, il_15, il_19, il_20, il_24, il_30, il_31, il_44, il_48, il_49, il_52, il_57, il_59, il_60, il_70, il_99, il_100, il_103, il_108, il_114, il_m1, il_m2, il_m3, il_m4, il_m9, il_m10, il_m100] at *) <;> omega)]; exact ⟨rfl, rfl⟩
  · refine x_iload_n (pc := 11) (i := 3) dX5_faultOfCells_11 rfl rfl ?_
    refine x_if_ge (pc := 12) (tgt := 17) dX5_faultOfCells_12 (by decide) (fun h12 => ?_) (fun h12 => ?_)
    · refine x_iload_n (pc := 17) (i := 2) dX5_faultOfCells_17 rfl rfl ?_
      refine x_i2l (pc := 18) dX5_faultOfCells_18 rfl ?_
      refine x_iload_n (pc := 19) (i := 3) dX5_faultOfCells_19 rfl rfl ?_
      refine x_i2l (pc := 20) dX5_faultOfCells_20 rfl ?_
      refine x_ladd (pc := 21) dX5_faultOfCells_21 ?_
      refine x_aload_n (pc := 22) (i := 0) dX5_faultOfCells_22 rfl rfl ?_
      refine x_getR (pc := 23) hS fX5_15 dX5_faultOfCells_23 rfl rfl ?_
      refine x_iload_n (pc := 26) (i := 1) dX5_faultOfCells_26 rfl rfl ?_
      refine x_aldN (pc := 27) hS dX5_faultOfCells_27 rfl (by omega) (by decide) ?_
      refine x_i2l (pc := 28) dX5_faultOfCells_28 rfl ?_
      refine x_lcmp (pc := 29) dX5_faultOfCells_29 ?_
      refine x_if_gt (pc := 30) (tgt := 37) dX5_faultOfCells_30 (by decide) (fun h30 => ?_) (fun h30 => ?_)
      · have hz := (lg_cmp_gt _ _).mp h30
        rw [l_lt, l_add32, Int32.toInt_toInt64] at hz
        rw [if_neg (by (try simp only [b2_e0, b2_n0, Decidable.not_not] at *) <;> (try simp only [i_lt, i_le, i_eq, not_and, not_or, ne_eq, il_0, il_1, il_2, il_3, il_4, il_5, il_6, il_7, il_8, il_9, il_10, il_14, il_15, il_19, il_20, il_24, il_30, il_31, il_44, il_48, il_49, il_52, il_57, il_59, il_60, il_70, il_99, il_100, il_103, il_108, il_114, il_m1, il_m2, il_m3, il_m4, il_m9, il_m10, il_m100] at *) <;> omega)]
        refine x_iconst (pc := 37) (v := 3) dX5_faultOfCells_37 (by decide) ?_
        refine x_ri (pc := 38) dX5_faultOfCells_38 rfl rfl ?_
        exact ⟨rfl, rfl⟩
      · have hz := Int64.not_lt.mp (fun q => h30 ((lg_cmp_gt _ _).mpr q))
        rw [l_le, l_add32, Int32.toInt_toInt64] at hz
        rw [if_pos (by (try simp only [b2_e0, b2_n0, Decidable.not_not] at *) <;> (try simp only [i_lt, i_le, i_eq, not_and, not_or, ne_eq, il_0, il_1, il_2, il_3, il_4, il_5, il_6, il_7, il_8, il_9, il_10, il_14, il_15, il_19, il_20, il_24, il_30, il_31, il_44, il_48, il_49, il_52, il_57, il_59, il_60, il_70, il_99, il_100, il_103, il_108, il_114, il_m1, il_m2, il_m3, il_m4, il_m9, il_m10, il_m100] at *) <;> omega)]
        refine x_iconst (pc := 33) (v := 0) dX5_faultOfCells_33 (by decide) ?_
        refine x_goto (pc := 34) (tgt := 38) dX5_faultOfCells_34 (by decide) ?_
        refine x_ri (pc := 38) dX5_faultOfCells_38 rfl rfl ?_
        exact ⟨rfl, rfl⟩
    · refine x_iconst (pc := 15) (v := 3) dX5_faultOfCells_15 (by decide) ?_
      refine x_ri (pc := 16) dX5_faultOfCells_16 rfl rfl ?_
      rw [if_neg (by (try simp only [b2_e0, b2_n0, Decidable.not_not] at *) <;> (try simp only [i_lt, i_le, i_eq, not_and, not_or, ne_eq, il_0, il_1, il_2, il_3, il_4, il_5, il_6, il_7, il_8, il_9, il_10, il_14, il_15, il_19, il_20, il_24, il_30, il_31, il_44, il_48, il_49, il_52, il_57, il_59, il_60, il_70, il_99, il_100, il_103, il_108, il_114, il_m1, il_m2, il_m3, il_m4, il_m9, il_m10, il_m100] at *) <;> omega)]; exact ⟨rfl, rfl⟩
def cutE (v L : Int32) : Int32 := if L = 0 then v.toInt8.toInt32 else if L = 1 then v.toInt16.toInt32 else v
theorem c_X5_cut {d : Nat} {w : mW} {v L : Int32} : mC d kX5_cut [.int v, .int L] w (fun r w' => r = some (.int (cutE v L)) ∧ w' = w) := by
  refine mC.of (L := [_, _]) okX5_cut 0 rfl rfl ?_
  refine x_iload_n (pc := 0) (i := 1) dX5_cut_0 rfl rfl ?_
  by_cases h1_0 : L = 0
  · rw [h1_0]
    refine x_lookup (pc := 1) (tgt := 28) dX5_cut_1 (by decide) rfl (by decide) ?_
    refine x_iload_n (pc := 28) (i := 0) dX5_cut_28 rfl rfl ?_
    refine x_i2b (pc := 29) dX5_cut_29 rfl ?_
    refine x_ri (pc := 30) dX5_cut_30 rfl rfl ?_
    exact ⟨by simp_all [cutE], rfl⟩
  by_cases h1_1 : L = 1
  · rw [h1_1]
    refine x_lookup (pc := 1) (tgt := 31) dX5_cut_1 (by decide) rfl (by decide) ?_
    refine x_iload_n (pc := 31) (i := 0) dX5_cut_31 rfl rfl ?_
    refine x_i2s (pc := 32) dX5_cut_32 rfl ?_
    refine x_ri (pc := 33) dX5_cut_33 rfl rfl ?_
    exact ⟨by simp_all [cutE], rfl⟩
  refine x_lookup (pc := 1) (tgt := 34) (off := 33) dX5_cut_1 (by decide) (by rw [lv_osw h1_0 (by decide), lv_osw h1_1 (by decide)]; rfl) (by decide) ?_
  refine x_iload_n (pc := 34) (i := 0) dX5_cut_34 rfl rfl ?_
  refine x_ri (pc := 35) dX5_cut_35 rfl rfl ?_
  exact ⟨by simp_all [cutE], rfl⟩
theorem fCell_0 {S : Int32} {n i : Nat} (hS : S = nI n) (hn : n ≤ 60) (hi : i < n) : fCell S (nI i) = 0 := by
  unfold fCell
  rw [if_pos ⟨nI_pos' (by omega), by rw [hS]; exact nI_lt hi (by omega)⟩]
theorem fCell_3 {S : Int32} {n : Nat} {i : Int32} (hS : S = nI n) (hn : n ≤ 60) (hi : ∀ j, j < n → i ≠ nI j) : fCell S i = 3 := by
  unfold fCell
  rw [if_neg]
  intro q
  rw [hS] at q
  obtain ⟨j, hj, e⟩ := in_nI (nI_toInt (by omega)) (by omega) q
  exact hi j hj e
theorem c_X5_valueAt {d : Nat} {w : mW} {k i n : Nat} (hS : Shape w) (hk : k < 4) (hsz : arr w 3 k = nI n) (hn : n ≤ 60) (hi : i < n) : mC (d + 2) kX5_valueAt [.ref 1, .int (nI k), .int (nI i)] w (fun r w' => r = some (.int (arr w 4 (60 * k + i))) ∧ w' = w) := by
  refine mC.of (L := [_, _, _]) okX5_valueAt 0 rfl rfl ?_
  refine x_aload_n (pc := 0) (i := 0) dX5_valueAt_0 rfl rfl ?_
  refine x_iload_n (pc := 1) (i := 1) dX5_valueAt_1 rfl rfl ?_
  refine x_iload_n (pc := 2) (i := 2) dX5_valueAt_2 rfl rfl ?_
  refine x_vs (pc := 3) (As := [_, _]) rfl hS lX5_28 dX5_valueAt_3 rfl rfl (Nat.le_of_ble_eq_true rfl) (c_X5_faultOfCell hS hk) ?_
  rintro _ _ ⟨rfl, hq⟩
  obtain rfl := hq.symm
  refine x_pushI ?_
  rw [fCell_0 hsz hn hi]
  refine x_if_ne (pc := 6) (tgt := 23) dX5_valueAt_6 (by decide) (fun h6 => absurd h6 (by exact not_not_intro rfl)) (fun h6 => ?_)
  refine x_aload_n (pc := 9) (i := 0) dX5_valueAt_9 rfl rfl ?_
  refine x_getR (pc := 10) hS fX5_18 dX5_valueAt_10 rfl rfl ?_
  refine x_iload_n (pc := 13) (i := 1) dX5_valueAt_13 rfl rfl ?_
  refine x_bipush (pc := 14) (v := 60) dX5_valueAt_14 (by decide) ?_
  refine x_imul (pc := 16) dX5_valueAt_16 ?_
  refine x_iload_n (pc := 17) (i := 2) dX5_valueAt_17 rfl rfl ?_
  refine x_iadd (pc := 18) dX5_valueAt_18 ?_
  rw [ix60]
  refine x_aldN (pc := 19) hS dX5_valueAt_19 rfl (by omega) (by decide) ?_
  refine x_goto (pc := 20) (tgt := 24) dX5_valueAt_20 (by decide) ?_
  refine x_ri (pc := 24) dX5_valueAt_24 rfl rfl ?_
  exact ⟨rfl, rfl⟩
theorem c_X5_setAt {d : Nat} {w : mW} {k i n : Nat} {v : Int32} (hS : Shape w) (hk : k < 4) (hsz : arr w 3 k = nI n) (hn : n ≤ 60) (hi : i < n) : mC (d + 2) kX5_setAt [.ref 1, .int (nI k), .int (nI i), .int v] w (fun r w' => r = none ∧ w' = setA w 4 (upd (arr w 4) (60 * k + i) (cutE v (arr w 2 k)))) := by
  refine mC.of (L := [_, _, _, _]) okX5_setAt 0 rfl rfl ?_
  refine x_aload_n (pc := 0) (i := 0) dX5_setAt_0 rfl rfl ?_
  refine x_iload_n (pc := 1) (i := 1) dX5_setAt_1 rfl rfl ?_
  refine x_iload_n (pc := 2) (i := 2) dX5_setAt_2 rfl rfl ?_
  refine x_vs (pc := 3) (As := [_, _]) rfl hS lX5_28 dX5_setAt_3 rfl rfl (Nat.le_of_ble_eq_true rfl) (c_X5_faultOfCell hS hk) ?_
  rintro _ _ ⟨rfl, hq⟩
  obtain rfl := hq.symm
  refine x_pushI ?_
  rw [fCell_0 hsz hn hi]
  refine x_if_ne (pc := 6) (tgt := 30) dX5_setAt_6 (by decide) (fun h6 => absurd h6 (by exact not_not_intro rfl)) (fun h6 => ?_)
  refine x_aload_n (pc := 9) (i := 0) dX5_setAt_9 rfl rfl ?_
  refine x_getR (pc := 10) hS fX5_18 dX5_setAt_10 rfl rfl ?_
  refine x_iload_n (pc := 13) (i := 1) dX5_setAt_13 rfl rfl ?_
  refine x_bipush (pc := 14) (v := 60) dX5_setAt_14 (by decide) ?_
  refine x_imul (pc := 16) dX5_setAt_16 ?_
  refine x_iload_n (pc := 17) (i := 2) dX5_setAt_17 rfl rfl ?_
  refine x_iadd (pc := 18) dX5_setAt_18 ?_
  rw [ix60]
  refine x_iload_n (pc := 19) (i := 3) dX5_setAt_19 rfl rfl ?_
  refine x_aload_n (pc := 20) (i := 0) dX5_setAt_20 rfl rfl ?_
  refine x_getR (pc := 21) hS fX5_11 dX5_setAt_21 rfl rfl ?_
  refine x_iload_n (pc := 24) (i := 1) dX5_setAt_24 rfl rfl ?_
  refine x_aldN (pc := 25) hS dX5_setAt_25 rfl (by omega) (by decide) ?_
  refine x_ss (pc := 26) (As := [_, _]) rfl lX5_32 dX5_setAt_26 rfl (Nat.le_of_ble_eq_true rfl) c_X5_cut ?_
  rintro _ _ ⟨rfl, hq⟩
  obtain rfl := hq.symm
  refine x_pushI ?_
  refine x_astN (pc := 29) hS dX5_setAt_29 rfl (by omega) (by decide) (fun hS => ?_)
  refine x_rv (pc := 30) dX5_setAt_30 rfl ?_
  exact ⟨rfl, rfl⟩
theorem c_X5_empty {d : Nat} {w : mW} {k : Nat} (hS : Shape w) (hk : k < 4) : mC (d + 1) kX5_empty [.ref 1, .int (nI k)] w (fun r w' => r = none ∧ w' = setA (setA w 2 (upd (arr w 2) k (-1))) 3 (upd (arr w 3) k 0)) := by
  refine mC.of (L := [_, _]) okX5_empty 0 rfl rfl ?_
  refine x_iload_n (pc := 0) (i := 1) dX5_empty_0 rfl rfl ?_
  refine x_ss (pc := 1) (As := [_]) rfl lX5_21 dX5_empty_1 rfl (Nat.le_of_ble_eq_true rfl) c_X5_isSheet ?_
  rintro _ _ ⟨rfl, hq⟩
  obtain rfl := hq.symm
  refine x_pushI ?_
  refine x_if_ne (pc := 4) (tgt := 8) dX5_empty_4 (by decide) (fun h4 => ?_) (fun h4 => absurd h4 (by rw [b2_n0]; exact k4 hk))
  refine x_aload_n (pc := 8) (i := 0) dX5_empty_8 rfl rfl ?_
  refine x_getR (pc := 9) hS fX5_11 dX5_empty_9 rfl rfl ?_
  refine x_iload_n (pc := 12) (i := 1) dX5_empty_12 rfl rfl ?_
  refine x_iconst (pc := 13) (v := (-1)) dX5_empty_13 (by decide) ?_
  refine x_astN (pc := 14) hS dX5_empty_14 rfl (by omega) (by decide) (fun hS => ?_)
  refine x_aload_n (pc := 15) (i := 0) dX5_empty_15 rfl rfl ?_
  refine x_getR (pc := 16) hS fX5_15 dX5_empty_16 rfl rfl ?_
  refine x_iload_n (pc := 19) (i := 1) dX5_empty_19 rfl rfl ?_
  refine x_iconst (pc := 20) (v := 0) dX5_empty_20 (by decide) ?_
  refine x_astN (pc := 21) hS dX5_empty_21 rfl (by omega) (by decide) (fun hS => ?_)
  refine x_rv (pc := 22) dX5_empty_22 rfl ?_
  exact ⟨rfl, by rw [arr_setA_a (by decide)]⟩
/-- cells from a on, n of them, are 0 -/
def zer (f : Nat → Int32) (a n : Nat) : Nat → Int32 := fun j => if a ≤ j ∧ j < a + n then 0 else f j
theorem zer_0 {f : Nat → Int32} {a : Nat} : zer f a 0 = f := by
  funext j; unfold zer; rw [if_neg (by omega)]
theorem zer_s {f : Nat → Int32} {a n : Nat} : upd (zer f a n) (a + n) 0 = zer f a (n + 1) := by
  funext j
  unfold upd zer
  by_cases h : j = a + n
  · rw [if_pos h, if_pos (by omega)]
  · rw [if_neg h]
    by_cases h2 : a ≤ j ∧ j < a + n
    · rw [if_pos h2, if_pos (by omega)]
    · rw [if_neg h2, if_neg (by omega)]
theorem c_X5_renew {d : Nat} {w : mW} {k n : Nat} {lane : Int32} (hS : Shape w) (hk : k < 4) (hn : n ≤ 60) : mC (d + 1) kX5_renew [.ref 1, .int (nI k), .int lane, .int (nI n)] w (fun r w' => r = none ∧ w' = setA (setA (setA w 2 (upd (arr w 2) k lane)) 3 (upd (arr w 3) k (nI n))) 4 (zer (arr w 4) (60 * k) n)) := by
  have tn : (nI n).toInt = (n : Int) := nI_toInt (by omega)
  have hS1 : Shape (setA (setA w 2 (upd (arr w 2) k lane)) 3 (upd (arr w 3) k (nI n))) := (hS.stA _ _).stA _ _
  have lp : ∀ (m i : Nat), i ≤ n → n < i + m → mJ mX0 (d + 1) kX5_renew (fun r w' => r = none ∧ w' = setA (setA (setA w 2 (upd (arr w 2) k lane)) 3 (upd (arr w 3) k (nI n))) 4 (zer (arr w 4) (60 * k) n)) 35 [.ref 1, .int (nI k), .int lane, .int (nI n), .int (nI i)] [] (setA (setA (setA w 2 (upd (arr w 2) k lane)) 3 (upd (arr w 3) k (nI n))) 4 (zer (arr w 4) (60 * k) i)) := by
    intro m
    induction m with
    | zero => intro i h1 h2; omega
    | succ m ih =>
      intro i hi1 hi2
      have hS := hS1.stA 4 (zer (arr w 4) (60 * k) i)
      have ti : (nI i).toInt = (i : Int) := nI_toInt (by omega)
      refine x_iload (pc := 35) dX5_renew_35 rfl ?_
      refine x_iload_n (pc := 37) (i := 3) dX5_renew_37 rfl rfl ?_
      refine x_icmp_ge (pc := 38) (tgt := 60) dX5_renew_38 (by decide) (fun h38 => ?_) (fun h38 => ?_)
      · refine x_rv (pc := 60) dX5_renew_60 rfl ?_
        have e := show i = n by (try simp only [b2_e0, b2_n0, Decidable.not_not] at *) <;> (try simp only [i_lt, i_le, i_eq, not_and, not_or, ne_eq, il_0, il_1, il_2, il_3, il_4, il_5, il_6, il_7, il_8, il_9, il_10, il_14, il_15, il_19, il_20, il_24, il_30, il_31, il_44, il_48, il_49, il_52, il_57, il_59, il_60, il_70, il_99, il_100, il_103, il_108, il_114, il_m1, il_m2, il_m3, il_m4, il_m9, il_m10, il_m100] at *) <;> omega
        subst e
        exact ⟨rfl, rfl⟩
      · have hin : i < n := by (try simp only [b2_e0, b2_n0, Decidable.not_not] at *) <;> (try simp only [i_lt, i_le, i_eq, not_and, not_or, ne_eq, il_0, il_1, il_2, il_3, il_4, il_5, il_6, il_7, il_8, il_9, il_10, il_14, il_15, il_19, il_20, il_24, il_30, il_31, il_44, il_48, il_49, il_52, il_57, il_59, il_60, il_70, il_99, il_100, il_103, il_108, il_114, il_m1, il_m2, il_m3, il_m4, il_m9, il_m10, il_m100] at *) <;> omega
        refine x_aload_n (pc := 41) (i := 0) dX5_renew_41 rfl rfl ?_
        refine x_getR (pc := 42) hS fX5_18 dX5_renew_42 rfl rfl ?_
        refine x_iload_n (pc := 45) (i := 1) dX5_renew_45 rfl rfl ?_
        refine x_bipush (pc := 46) (v := 60) dX5_renew_46 (by decide) ?_
        refine x_imul (pc := 48) dX5_renew_48 ?_
        refine x_iload (pc := 49) dX5_renew_49 rfl ?_
        refine x_iadd (pc := 51) dX5_renew_51 ?_
        refine x_iconst (pc := 52) (v := 0) dX5_renew_52 (by decide) ?_
        rw [ix60]
        refine x_astN (pc := 53) hS dX5_renew_53 rfl (by omega) (by decide) (fun hS => ?_)
        rw [arr_setA hS1 rfl, setA_setA, zer_s]
        refine x_iinc (pc := 54) (L' := [_, _, _, _, _]) dX5_renew_54 (by decide) rfl (by first | exact nI_inc _ | rfl) rfl ?_
        refine x_goto (pc := 57) (tgt := 35) dX5_renew_57 (by decide) ?_
        exact ih (i + 1) (by (try simp only [b2_e0, b2_n0, Decidable.not_not] at *) <;> (try simp only [i_lt, i_le, i_eq, not_and, not_or, ne_eq, il_0, il_1, il_2, il_3, il_4, il_5, il_6, il_7, il_8, il_9, il_10, il_14, il_15, il_19, il_20, il_24, il_30, il_31, il_44, il_48, il_49, il_52, il_57, il_59, il_60, il_70, il_99, il_100, il_103, il_108, il_114, il_m1, il_m2, il_m3, il_m4, il_m9, il_m10, il_m100] at *) <;> omega) (by omega)
  have h9 := lp (n + 1) 0 (by omega) (by omega)
  rw [zer_0] at h9
  have h8 : setA (setA (setA w 2 (upd (arr w 2) k lane)) 3 (upd (arr w 3) k (nI n))) 4 (arr w 4) = setA (setA w 2 (upd (arr w 2) k lane)) 3 (upd (arr w 3) k (nI n)) := by
    have := setA_self hS1 (a := 4) (n := 240) rfl
    rw [arr_setA_a (by decide), arr_setA_a (by decide)] at this
    exact this
  rw [h8] at h9
  refine mC.of (L := [_, _, _, _, _]) okX5_renew 1 rfl rfl ?_
  refine x_iload_n (pc := 0) (i := 1) dX5_renew_0 rfl rfl ?_
  refine x_ss (pc := 1) (As := [_]) rfl lX5_21 dX5_renew_1 rfl (Nat.le_of_ble_eq_true rfl) c_X5_isSheet ?_
  rintro _ _ ⟨rfl, hq⟩
  obtain rfl := hq.symm
  refine x_pushI ?_
  refine x_if_eq (pc := 4) (tgt := 17) dX5_renew_4 (by decide) (fun h4 => absurd h4 (by rw [b2_e0]; exact not_not_intro (k4 hk))) (fun h4 => ?_)
  refine x_iload_n (pc := 7) (i := 3) dX5_renew_7 rfl rfl ?_
  refine x_if_lt (pc := 8) (tgt := 17) dX5_renew_8 (by decide) (fun h8 => absurd h8 (by (try simp only [b2_e0, b2_n0, Decidable.not_not] at *) <;> (try simp only [i_lt, i_le, i_eq, not_and, not_or, ne_eq, il_0, il_1, il_2, il_3, il_4, il_5, il_6, il_7, il_8, il_9, il_10, il_14, il_15, il_19, il_20, il_24, il_30, il_31, il_44, il_48, il_49, il_52, il_57, il_59, il_60, il_70, il_99, il_100, il_103, il_108, il_114, il_m1, il_m2, il_m3, il_m4, il_m9, il_m10, il_m100] at *) <;> omega)) (fun h8 => ?_)
  refine x_iload_n (pc := 11) (i := 3) dX5_renew_11 rfl rfl ?_
  refine x_bipush (pc := 12) (v := 60) dX5_renew_12 (by decide) ?_
  refine x_icmp_le (pc := 14) (tgt := 18) dX5_renew_14 (by decide) (fun h14 => ?_) (fun h14 => absurd h14 (by (try simp only [b2_e0, b2_n0, Decidable.not_not] at *) <;> (try simp only [i_lt, i_le, i_eq, not_and, not_or, ne_eq, il_0, il_1, il_2, il_3, il_4, il_5, il_6, il_7, il_8, il_9, il_10, il_14, il_15, il_19, il_20, il_24, il_30, il_31, il_44, il_48, il_49, il_52, il_57, il_59, il_60, il_70, il_99, il_100, il_103, il_108, il_114, il_m1, il_m2, il_m3, il_m4, il_m9, il_m10, il_m100] at *) <;> omega))
  refine x_aload_n (pc := 18) (i := 0) dX5_renew_18 rfl rfl ?_
  refine x_getR (pc := 19) hS fX5_11 dX5_renew_19 rfl rfl ?_
  refine x_iload_n (pc := 22) (i := 1) dX5_renew_22 rfl rfl ?_
  refine x_iload_n (pc := 23) (i := 2) dX5_renew_23 rfl rfl ?_
  refine x_astN (pc := 24) hS dX5_renew_24 rfl (by omega) (by decide) (fun hS => ?_)
  refine x_aload_n (pc := 25) (i := 0) dX5_renew_25 rfl rfl ?_
  refine x_getR (pc := 26) hS fX5_15 dX5_renew_26 rfl rfl ?_
  refine x_iload_n (pc := 29) (i := 1) dX5_renew_29 rfl rfl ?_
  refine x_iload_n (pc := 30) (i := 3) dX5_renew_30 rfl rfl ?_
  refine x_astN (pc := 31) hS dX5_renew_31 rfl (by omega) (by decide) (fun hS => ?_)
  rw [arr_setA_a (by decide)]
  refine x_iconst (pc := 32) (v := 0) dX5_renew_32 (by decide) ?_
  refine x_istore (pc := 33) (L' := [_, _, _, _, _]) dX5_renew_33 (by decide) rfl ?_
  exact h9

