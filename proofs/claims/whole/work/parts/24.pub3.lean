-- calls that change the down: charge, earn, leave, lodge
theorem DI.ch {nb nw : Nat} {w w' : mW} (h : DI nb nw w) (g : Gr [10, 12, 13, 15, 16, 50, 52, 53, 55, 56] [(7, 2), (44, 7)] w w') (h10 : arr w' 50 = arr w' 10) (h12 : arr w' 52 = arr w' 12) (h13 : arr w' 53 = arr w' 13) (h15 : arr w' 55 = arr w' 15) (h16 : arr w' 56 = arr w' 16) (hn : fld w' 44 7 = fld w' 7 2) (hB : BarOK nb (arr w 8) (arr w 9) (arr w' 10) (arr w 11)) (hW : WalOK nb nw (arr w' 12) (arr w' 13) (arr w 14) (arr w' 15)) : DI nb nw w' := by
  unfold DI at *
  rw [g.1 8 (by decide), g.1 9 (by decide), g.1 11 (by decide), g.1 14 (by decide), g.1 48 (by decide), g.1 49 (by decide), g.1 51 (by decide), g.1 54 (by decide), g.2 7 0 (by decide), g.2 7 1 (by decide), g.2 44 5 (by decide), g.2 44 6 (by decide)]
  obtain ⟨h1, h2, h3, tb, tw, _, _, ⟨e1, e2, e3⟩, f8, f9, f10, f11, f12, f13, f14, f15, f16⟩ := h
  exact ⟨h1, h2, h3, tb, tw, hB, hW, ⟨e1, e2, hn⟩, f8, f9, h10, f11, h12, h13, f14, h15, h16⟩
theorem BarOK.pe {nb : Nat} {ki be pe si : Nat → Int32} (h : BarOK nb ki be pe si) {j : Nat} {v : Int32} (hv : 0 ≤ v.toInt ∧ v.toInt ≤ 9) : BarOK nb ki be (upd pe j v) si := by
  intro i hi
  obtain ⟨a, b, c, d⟩ := h i hi
  refine ⟨a, b, ?_, d⟩
  unfold upd
  split
  · exact hv
  · exact c
theorem WalOK.me {nb nw : Nat} {me pl re lo : Nat → Int32} (h : WalOK nb nw me pl re lo) {j : Nat} {v : Int32} (hv : 0 ≤ v.toInt ∧ v.toInt ≤ 99) : WalOK nb nw (upd me j v) pl re lo := by
  intro i hi
  obtain ⟨a, b⟩ := h i hi
  refine ⟨?_, b⟩
  unfold upd
  split
  · exact hv
  · exact a
theorem WalOK.lo {nb nw : Nat} {me pl re lo : Nat → Int32} (h : WalOK nb nw me pl re lo) {j : Nat} {v : Int32} (hv : v = -9 ∨ ∃ b, b < nb ∧ v = nI b) : WalOK nb nw me pl re (upd lo j v) := by
  intro i hi
  obtain ⟨a, b, c, d⟩ := h i hi
  refine ⟨a, b, c, ?_⟩
  unfold upd
  split
  · exact hv
  · exact d
theorem WalOK.pl {nb nw : Nat} {me pl re lo : Nat → Int32} (h : WalOK nb nw me pl re lo) {j : Nat} {v : Int32} (hv : 0 ≤ v.toInt ∧ v.toInt ≤ 9) : WalOK nb nw me (upd pl j v) re lo := by
  intro i hi
  obtain ⟨a, b, c⟩ := h i hi
  refine ⟨a, ?_, c⟩
  unfold upd
  split
  · exact hv
  · exact b
theorem c_X7_charge_no {d : Nat} {w : mW} {b v : Int32} (hS : Shape w) (h : ¬ (0 ≤ b ∧ b < fld w 7 0)) : mC (d + 1) kX7_charge [.ref 0, .int b, .int v] w (fun r w' => r = some (.int (-1)) ∧ w' = w) := by
  refine mC.of (L := [_, _, _, _]) okX7_charge 1 rfl rfl ?_
  refine x_aload_n (pc := 0) (i := 0) dX7_charge_0 rfl rfl ?_
  refine x_getR (pc := 1) hS fX7_28 dX7_charge_1 rfl rfl ?_
  refine x_iload_n (pc := 4) (i := 1) dX7_charge_4 rfl rfl ?_
  refine x_vs (pc := 5) (As := [_]) rfl hS lX7_100 dX7_charge_5 rfl rfl (Nat.le_of_ble_eq_true rfl) (c_X0_hasBarrow_7 hS) ?_
  rintro _ _ ⟨rfl, hq⟩
  obtain rfl := hq.symm
  refine x_pushI ?_
  refine x_if_ne (pc := 8) (tgt := 13) dX7_charge_8 (by decide) (fun h8 => absurd h8 (by rw [b2_n0]; exact h)) (fun h8 => ?_)
  refine x_iconst (pc := 11) (v := (-1)) dX7_charge_11 (by decide) ?_
  refine x_ri (pc := 12) dX7_charge_12 rfl rfl ?_
  exact ⟨rfl, rfl⟩
theorem c_X7_charge {d : Nat} {w : mW} {v : Int32} {b nb : Nat} (hS : Shape w) (tb : (fld w 7 0).toInt = (nb : Int)) (hnb : nb ≤ 5) (hb : b < nb) : mC (d + 1) kX7_charge [.ref 0, .int (nI b), .int v] w (fun r w' => r = some (.int (if 0 ≤ v ∧ v ≤ 9 then arr w 10 b else -2)) ∧ w' = if 0 ≤ v ∧ v ≤ 9 then setA w 10 (upd (arr w 10) b v) else w) := by
  have tk : (nI b).toInt = (b : Int) := nI_toInt (by omega)
  refine mC.of (L := [_, _, _, _]) okX7_charge 1 rfl rfl ?_
  refine x_aload_n (pc := 0) (i := 0) dX7_charge_0 rfl rfl ?_
  refine x_getR (pc := 1) hS fX7_28 dX7_charge_1 rfl rfl ?_
  refine x_iload_n (pc := 4) (i := 1) dX7_charge_4 rfl rfl ?_
  refine x_vs (pc := 5) (As := [_]) rfl hS lX7_100 dX7_charge_5 rfl rfl (Nat.le_of_ble_eq_true rfl) (c_X0_hasBarrow_7 hS) ?_
  rintro _ _ ⟨rfl, hq⟩
  obtain rfl := hq.symm
  refine x_pushI ?_
  refine x_if_ne (pc := 8) (tgt := 13) dX7_charge_8 (by decide) (fun h8 => ?_) (fun h8 => absurd h8 (by rw [b2_n0]; exact ⟨by (try simp only [b2_e0, b2_n0, Decidable.not_not] at *) <;> (try simp only [i_lt, i_le, i_eq, not_and, not_or, ne_eq, il_0, il_1, il_2, il_3, il_4, il_5, il_6, il_7, il_8, il_9, il_10, il_14, il_15, il_19, il_20, il_24, il_30, il_31, il_44, il_48, il_49, il_52, il_57, il_59, il_60, il_70, il_99, il_100, il_103, il_108, il_114, il_m1, il_m2, il_m3, il_m4, il_m9, il_m10, il_m100] at *) <;> omega, by (try simp only [b2_e0, b2_n0, Decidable.not_not] at *) <;> (try simp only [i_lt, i_le, i_eq, not_and, not_or, ne_eq, il_0, il_1, il_2, il_3, il_4, il_5, il_6, il_7, il_8, il_9, il_10, il_14, il_15, il_19, il_20, il_24, il_30, il_31, il_44, il_48, il_49, il_52, il_57, il_59, il_60, il_70, il_99, il_100, il_103, il_108, il_114, il_m1, il_m2, il_m3, il_m4, il_m9, il_m10, il_m100] at *) <;> omega⟩))
  refine x_iload_n (pc := 13) (i := 2) dX7_charge_13 rfl rfl ?_
  refine x_if_lt (pc := 14) (tgt := 23) dX7_charge_14 (by decide) (fun h14 => ?_) (fun h14 => ?_)
  · refine x_bipush (pc := 23) (v := (-2)) dX7_charge_23 (by decide) ?_
    refine x_ri (pc := 25) dX7_charge_25 rfl rfl ?_
    rw [if_neg (c := 0 ≤ v ∧ v ≤ 9) (by (try simp only [b2_e0, b2_n0, Decidable.not_not] at *) <;> (try simp only [i_lt, i_le, i_eq, not_and, not_or, ne_eq, il_0, il_1, il_2, il_3, il_4, il_5, il_6, il_7, il_8, il_9, il_10, il_14, il_15, il_19, il_20, il_24, il_30, il_31, il_44, il_48, il_49, il_52, il_57, il_59, il_60, il_70, il_99, il_100, il_103, il_108, il_114, il_m1, il_m2, il_m3, il_m4, il_m9, il_m10, il_m100] at *) <;> omega), if_neg (c := 0 ≤ v ∧ v ≤ 9) (by (try simp only [b2_e0, b2_n0, Decidable.not_not] at *) <;> (try simp only [i_lt, i_le, i_eq, not_and, not_or, ne_eq, il_0, il_1, il_2, il_3, il_4, il_5, il_6, il_7, il_8, il_9, il_10, il_14, il_15, il_19, il_20, il_24, il_30, il_31, il_44, il_48, il_49, il_52, il_57, il_59, il_60, il_70, il_99, il_100, il_103, il_108, il_114, il_m1, il_m2, il_m3, il_m4, il_m9, il_m10, il_m100] at *) <;> omega)]; exact ⟨rfl, rfl⟩
  · refine x_iload_n (pc := 17) (i := 2) dX7_charge_17 rfl rfl ?_
    refine x_bipush (pc := 18) (v := 9) dX7_charge_18 (by decide) ?_
    refine x_icmp_le (pc := 20) (tgt := 26) dX7_charge_20 (by decide) (fun h20 => ?_) (fun h20 => ?_)
    · refine x_aload_n (pc := 26) (i := 0) dX7_charge_26 rfl rfl ?_
      refine x_getR (pc := 27) hS fX7_28 dX7_charge_27 rfl rfl ?_
      refine x_getR (pc := 30) hS fX7_110 dX7_charge_30 rfl rfl ?_
      refine x_iload_n (pc := 33) (i := 1) dX7_charge_33 rfl rfl ?_
      refine x_aldN (pc := 34) hS dX7_charge_34 rfl (by omega) (by decide) ?_
      refine x_istore_n (pc := 35) (i := 3) (L' := [_, _, _, _]) dX7_charge_35 rfl (by decide) rfl ?_
      refine x_aload_n (pc := 36) (i := 0) dX7_charge_36 rfl rfl ?_
      refine x_getR (pc := 37) hS fX7_28 dX7_charge_37 rfl rfl ?_
      refine x_getR (pc := 40) hS fX7_110 dX7_charge_40 rfl rfl ?_
      refine x_iload_n (pc := 43) (i := 1) dX7_charge_43 rfl rfl ?_
      refine x_iload_n (pc := 44) (i := 2) dX7_charge_44 rfl rfl ?_
      refine x_astN (pc := 45) hS dX7_charge_45 rfl (by omega) (by decide) (fun hS => ?_)
      refine x_iload_n (pc := 46) (i := 3) dX7_charge_46 rfl rfl ?_
      refine x_ri (pc := 47) dX7_charge_47 rfl rfl ?_
      rw [if_pos (c := 0 ≤ v ∧ v ≤ 9) (by (try simp only [b2_e0, b2_n0, Decidable.not_not] at *) <;> (try simp only [i_lt, i_le, i_eq, not_and, not_or, ne_eq, il_0, il_1, il_2, il_3, il_4, il_5, il_6, il_7, il_8, il_9, il_10, il_14, il_15, il_19, il_20, il_24, il_30, il_31, il_44, il_48, il_49, il_52, il_57, il_59, il_60, il_70, il_99, il_100, il_103, il_108, il_114, il_m1, il_m2, il_m3, il_m4, il_m9, il_m10, il_m100] at *) <;> omega), if_pos (c := 0 ≤ v ∧ v ≤ 9) (by (try simp only [b2_e0, b2_n0, Decidable.not_not] at *) <;> (try simp only [i_lt, i_le, i_eq, not_and, not_or, ne_eq, il_0, il_1, il_2, il_3, il_4, il_5, il_6, il_7, il_8, il_9, il_10, il_14, il_15, il_19, il_20, il_24, il_30, il_31, il_44, il_48, il_49, il_52, il_57, il_59, il_60, il_70, il_99, il_100, il_103, il_108, il_114, il_m1, il_m2, il_m3, il_m4, il_m9, il_m10, il_m100] at *) <;> omega)]; exact ⟨rfl, rfl⟩
    · refine x_bipush (pc := 23) (v := (-2)) dX7_charge_23 (by decide) ?_
      refine x_ri (pc := 25) dX7_charge_25 rfl rfl ?_
      rw [if_neg (c := 0 ≤ v ∧ v ≤ 9) (by (try simp only [b2_e0, b2_n0, Decidable.not_not] at *) <;> (try simp only [i_lt, i_le, i_eq, not_and, not_or, ne_eq, il_0, il_1, il_2, il_3, il_4, il_5, il_6, il_7, il_8, il_9, il_10, il_14, il_15, il_19, il_20, il_24, il_30, il_31, il_44, il_48, il_49, il_52, il_57, il_59, il_60, il_70, il_99, il_100, il_103, il_108, il_114, il_m1, il_m2, il_m3, il_m4, il_m9, il_m10, il_m100] at *) <;> omega), if_neg (c := 0 ≤ v ∧ v ≤ 9) (by (try simp only [b2_e0, b2_n0, Decidable.not_not] at *) <;> (try simp only [i_lt, i_le, i_eq, not_and, not_or, ne_eq, il_0, il_1, il_2, il_3, il_4, il_5, il_6, il_7, il_8, il_9, il_10, il_14, il_15, il_19, il_20, il_24, il_30, il_31, il_44, il_48, il_49, il_52, il_57, il_59, il_60, il_70, il_99, il_100, il_103, il_108, il_114, il_m1, il_m2, il_m3, il_m4, il_m9, il_m10, il_m100] at *) <;> omega)]; exact ⟨rfl, rfl⟩
theorem c_X8_charge_no {d : Nat} {w : mW} {b v : Int32} (hS : Shape w) (h : ¬ (0 ≤ b ∧ b < fld w 44 5)) : mC (d + 1) kX8_charge [.ref 44, .int b, .int v] w (fun r w' => r = some (.int (-1)) ∧ w' = w) := by
  refine mC.of (L := [_, _, _, _]) okX8_charge 1 rfl rfl ?_
  refine x_aload_n (pc := 0) (i := 0) dX8_charge_0 rfl rfl ?_
  refine x_iload_n (pc := 1) (i := 1) dX8_charge_1 rfl rfl ?_
  refine x_vs (pc := 2) (As := [_]) rfl hS lX8_152 dX8_charge_2 rfl rfl (Nat.le_of_ble_eq_true rfl) (c_X8_isBarrow hS) ?_
  rintro _ _ ⟨rfl, hq⟩
  obtain rfl := hq.symm
  refine x_pushI ?_
  refine x_if_ne (pc := 5) (tgt := 10) dX8_charge_5 (by decide) (fun h5 => absurd h5 (by rw [b2_n0]; exact h)) (fun h5 => ?_)
  refine x_iconst (pc := 8) (v := (-1)) dX8_charge_8 (by decide) ?_
  refine x_ri (pc := 9) dX8_charge_9 rfl rfl ?_
  exact ⟨rfl, rfl⟩
theorem c_X8_charge {d : Nat} {w : mW} {v : Int32} {b nb : Nat} (hS : Shape w) (tb : (fld w 44 5).toInt = (nb : Int)) (hnb : nb ≤ 5) (hb : b < nb) : mC (d + 1) kX8_charge [.ref 44, .int (nI b), .int v] w (fun r w' => r = some (.int (if 0 ≤ v ∧ v ≤ 9 then arr w 50 b else -2)) ∧ w' = if 0 ≤ v ∧ v ≤ 9 then setA w 50 (upd (arr w 50) b v) else w) := by
  have tk : (nI b).toInt = (b : Int) := nI_toInt (by omega)
  refine mC.of (L := [_, _, _, _]) okX8_charge 1 rfl rfl ?_
  refine x_aload_n (pc := 0) (i := 0) dX8_charge_0 rfl rfl ?_
  refine x_iload_n (pc := 1) (i := 1) dX8_charge_1 rfl rfl ?_
  refine x_vs (pc := 2) (As := [_]) rfl hS lX8_152 dX8_charge_2 rfl rfl (Nat.le_of_ble_eq_true rfl) (c_X8_isBarrow hS) ?_
  rintro _ _ ⟨rfl, hq⟩
  obtain rfl := hq.symm
  refine x_pushI ?_
  refine x_if_ne (pc := 5) (tgt := 10) dX8_charge_5 (by decide) (fun h5 => ?_) (fun h5 => absurd h5 (by rw [b2_n0]; exact ⟨by (try simp only [b2_e0, b2_n0, Decidable.not_not] at *) <;> (try simp only [i_lt, i_le, i_eq, not_and, not_or, ne_eq, il_0, il_1, il_2, il_3, il_4, il_5, il_6, il_7, il_8, il_9, il_10, il_14, il_15, il_19, il_20, il_24, il_30, il_31, il_44, il_48, il_49, il_52, il_57, il_59, il_60, il_70, il_99, il_100, il_103, il_108, il_114, il_m1, il_m2, il_m3, il_m4, il_m9, il_m10, il_m100] at *) <;> omega, by (try simp only [b2_e0, b2_n0, Decidable.not_not] at *) <;> (try simp only [i_lt, i_le, i_eq, not_and, not_or, ne_eq, il_0, il_1, il_2, il_3, il_4, il_5, il_6, il_7, il_8, il_9, il_10, il_14, il_15, il_19, il_20, il_24, il_30, il_31, il_44, il_48, il_49, il_52, il_57, il_59, il_60, il_70, il_99, il_100, il_103, il_108, il_114, il_m1, il_m2, il_m3, il_m4, il_m9, il_m10, il_m100] at *) <;> omega⟩))
  refine x_iload_n (pc := 10) (i := 2) dX8_charge_10 rfl rfl ?_
  refine x_iconst (pc := 11) (v := 0) dX8_charge_11 (by decide) ?_
  refine x_bipush (pc := 12) (v := 9) dX8_charge_12 (by decide) ?_
  refine x_ss (pc := 14) (As := [_, _, _]) rfl lX8_88 dX8_charge_14 rfl (Nat.le_of_ble_eq_true rfl) c_X8_within ?_
  rintro _ _ ⟨rfl, hq⟩
  obtain rfl := hq.symm
  refine x_pushI ?_
  refine x_if_ne (pc := 17) (tgt := 23) dX8_charge_17 (by decide) (fun h17 => ?_) (fun h17 => ?_)
  · refine x_aload_n (pc := 23) (i := 0) dX8_charge_23 rfl rfl ?_
    refine x_getR (pc := 24) hS fX8_25 dX8_charge_24 rfl rfl ?_
    refine x_iload_n (pc := 27) (i := 1) dX8_charge_27 rfl rfl ?_
    refine x_aldN (pc := 28) hS dX8_charge_28 rfl (by omega) (by decide) ?_
    refine x_istore_n (pc := 29) (i := 3) (L' := [_, _, _, _]) dX8_charge_29 rfl (by decide) rfl ?_
    refine x_aload_n (pc := 30) (i := 0) dX8_charge_30 rfl rfl ?_
    refine x_getR (pc := 31) hS fX8_25 dX8_charge_31 rfl rfl ?_
    refine x_iload_n (pc := 34) (i := 1) dX8_charge_34 rfl rfl ?_
    refine x_iload_n (pc := 35) (i := 2) dX8_charge_35 rfl rfl ?_
    refine x_astN (pc := 36) hS dX8_charge_36 rfl (by omega) (by decide) (fun hS => ?_)
    refine x_iload_n (pc := 37) (i := 3) dX8_charge_37 rfl rfl ?_
    refine x_ri (pc := 38) dX8_charge_38 rfl rfl ?_
    rw [if_pos (c := 0 ≤ v ∧ v ≤ 9) (by (try simp only [b2_e0, b2_n0, Decidable.not_not] at *) <;> (try simp only [i_lt, i_le, i_eq, not_and, not_or, ne_eq, il_0, il_1, il_2, il_3, il_4, il_5, il_6, il_7, il_8, il_9, il_10, il_14, il_15, il_19, il_20, il_24, il_30, il_31, il_44, il_48, il_49, il_52, il_57, il_59, il_60, il_70, il_99, il_100, il_103, il_108, il_114, il_m1, il_m2, il_m3, il_m4, il_m9, il_m10, il_m100] at *) <;> omega), if_pos (c := 0 ≤ v ∧ v ≤ 9) (by (try simp only [b2_e0, b2_n0, Decidable.not_not] at *) <;> (try simp only [i_lt, i_le, i_eq, not_and, not_or, ne_eq, il_0, il_1, il_2, il_3, il_4, il_5, il_6, il_7, il_8, il_9, il_10, il_14, il_15, il_19, il_20, il_24, il_30, il_31, il_44, il_48, il_49, il_52, il_57, il_59, il_60, il_70, il_99, il_100, il_103, il_108, il_114, il_m1, il_m2, il_m3, il_m4, il_m9, il_m10, il_m100] at *) <;> omega)]; exact ⟨rfl, rfl⟩
  · refine x_bipush (pc := 20) (v := (-2)) dX8_charge_20 (by decide) ?_
    refine x_ri (pc := 22) dX8_charge_22 rfl rfl ?_
    rw [if_neg (c := 0 ≤ v ∧ v ≤ 9) (by (try simp only [b2_e0, b2_n0, Decidable.not_not] at *) <;> (try simp only [i_lt, i_le, i_eq, not_and, not_or, ne_eq, il_0, il_1, il_2, il_3, il_4, il_5, il_6, il_7, il_8, il_9, il_10, il_14, il_15, il_19, il_20, il_24, il_30, il_31, il_44, il_48, il_49, il_52, il_57, il_59, il_60, il_70, il_99, il_100, il_103, il_108, il_114, il_m1, il_m2, il_m3, il_m4, il_m9, il_m10, il_m100] at *) <;> omega), if_neg (c := 0 ≤ v ∧ v ≤ 9) (by (try simp only [b2_e0, b2_n0, Decidable.not_not] at *) <;> (try simp only [i_lt, i_le, i_eq, not_and, not_or, ne_eq, il_0, il_1, il_2, il_3, il_4, il_5, il_6, il_7, il_8, il_9, il_10, il_14, il_15, il_19, il_20, il_24, il_30, il_31, il_44, il_48, il_49, il_52, il_57, il_59, il_60, il_70, il_99, il_100, il_103, il_108, il_114, il_m1, il_m2, il_m3, il_m4, il_m9, il_m10, il_m100] at *) <;> omega)]; exact ⟨rfl, rfl⟩
theorem both_charge {w : mW} (hI : Inv w) (b v : Int32) : Both kX7_charge kX8_charge [.int b, .int v] w := by
  intro d
  obtain ⟨hS, nb, nw, nr, hD, hR, hSI, hT⟩ := id hI; obtain ⟨h1, h2, h3, tb, tw, hB, hW, ⟨e1, e2, e3⟩, f8, f9, f10, f11, f12, f13, f14, f15, f16⟩ := id hD
  by_cases hb : 0 ≤ b ∧ b < fld w 7 0
  · obtain ⟨j, hj, rfl⟩ := in_nI tb (by omega) hb
    refine mC.mono (c_X7_charge (d := d + 19) hS tb h1 hj) ?_
    by_cases hv : 0 ≤ v ∧ v ≤ 9
    · simp only [if_pos hv]
      rintro _ w1 ⟨rfl, hq⟩
      subst hq
      have hS1 := hS.stA 10 (upd (arr w 10) j v)
      have q1 : arr (setA w 10 (upd (arr w 10) j v)) 50 = arr w 10 := by rw [arr_setA_a (by decide), f10]
      refine mC.mono (c_X8_charge (d := d + 19) hS1 (by rw [fld_setA, e1]; exact tb) h1 hj) ?_
      simp only [if_pos hv, q1]
      rintro _ w2 ⟨rfl, hq⟩
      subst hq
      have g : Gr [10, 50] [] w (setA (setA w 10 (upd (arr w 10) j v)) 50 (upd (arr w 10) j v)) := (Gr.rf.stA (by decide) _).stA (by decide) _
      have hv' : 0 ≤ v.toInt ∧ v.toInt ≤ 9 := by (try simp only [b2_e0, b2_n0, Decidable.not_not] at *) <;> (try simp only [i_lt, i_le, i_eq, not_and, not_or, ne_eq, il_0, il_1, il_2, il_3, il_4, il_5, il_6, il_7, il_8, il_9, il_10, il_14, il_15, il_19, il_20, il_24, il_30, il_31, il_44, il_48, il_49, il_52, il_57, il_59, il_60, il_70, il_99, il_100, il_103, il_108, il_114, il_m1, il_m2, il_m3, il_m4, il_m9, il_m10, il_m100] at *) <;> omega
      have q2 : arr (setA (setA w 10 (upd (arr w 10) j v)) 50 (upd (arr w 10) j v)) 10 = upd (arr w 10) j v := by rw [arr_setA_a (by decide), arr_setA hS rfl]
      refine ⟨rfl, hS1.stA _ _, nb, nw, nr, hD.ch (g.up (by decide) (by decide)) ?_ ?_ ?_ ?_ ?_ ?_ ?_ ?_, hR.gr g (by decide) (by decide), hSI.gr g (by decide), hT.gr g (by decide)⟩
      · rw [q2, arr_setA hS1 rfl]
      · rw [g.1 52 (by decide), g.1 12 (by decide), f12]
      · rw [g.1 53 (by decide), g.1 13 (by decide), f13]
      · rw [g.1 55 (by decide), g.1 15 (by decide), f15]
      · rw [g.1 56 (by decide), g.1 16 (by decide), f16]
      · rw [g.2 44 7 (by decide), g.2 7 2 (by decide), e3]
      · rw [q2]; exact hB.pe hv'
      · rw [g.1 12 (by decide), g.1 13 (by decide), g.1 15 (by decide)]; exact hW
    · simp only [if_neg hv]
      rintro _ w1 ⟨rfl, hq⟩
      subst hq
      refine mC.mono (c_X8_charge (d := d + 19) hS (by rw [e1]; exact tb) h1 hj) ?_
      simp only [if_neg hv]
      rintro _ w2 ⟨rfl, hq⟩
      subst hq
      exact ⟨rfl, hI⟩
  · refine mC.mono (c_X7_charge_no (d := d + 19) hS hb) ?_
    rintro _ _ ⟨rfl, hq⟩; obtain rfl := hq.symm
    refine mC.mono (c_X8_charge_no (d := d + 19) hS (by rw [e1]; exact hb)) ?_
    rintro _ _ ⟨rfl, hq⟩; obtain rfl := hq.symm
    exact ⟨rfl, hI⟩
theorem c_X7_earn_no {d : Nat} {w : mW} {b v : Int32} (hS : Shape w) (h : ¬ (0 ≤ b ∧ b < fld w 7 1)) : mC (d + 1) kX7_earn [.ref 0, .int b, .int v] w (fun r w' => r = some (.int (-1)) ∧ w' = w) := by
  refine mC.of (L := [_, _, _, _]) okX7_earn 1 rfl rfl ?_
  refine x_aload_n (pc := 0) (i := 0) dX7_earn_0 rfl rfl ?_
  refine x_getR (pc := 1) hS fX7_28 dX7_earn_1 rfl rfl ?_
  refine x_iload_n (pc := 4) (i := 1) dX7_earn_4 rfl rfl ?_
  refine x_vs (pc := 5) (As := [_]) rfl hS lX7_123 dX7_earn_5 rfl rfl (Nat.le_of_ble_eq_true rfl) (c_X0_hasWalker_7 hS) ?_
  rintro _ _ ⟨rfl, hq⟩
  obtain rfl := hq.symm
  refine x_pushI ?_
  refine x_if_ne (pc := 8) (tgt := 13) dX7_earn_8 (by decide) (fun h8 => absurd h8 (by rw [b2_n0]; exact h)) (fun h8 => ?_)
  refine x_iconst (pc := 11) (v := (-1)) dX7_earn_11 (by decide) ?_
  refine x_ri (pc := 12) dX7_earn_12 rfl rfl ?_
  exact ⟨rfl, rfl⟩
theorem c_X7_earn {d : Nat} {w : mW} {v : Int32} {b nb : Nat} (hS : Shape w) (tb : (fld w 7 1).toInt = (nb : Int)) (hnb : nb ≤ 5) (hb : b < nb) : mC (d + 1) kX7_earn [.ref 0, .int (nI b), .int v] w (fun r w' => r = some (.int (if 0 ≤ v ∧ v ≤ 99 then arr w 12 b else -2)) ∧ w' = if 0 ≤ v ∧ v ≤ 99 then setA w 12 (upd (arr w 12) b v) else w) := by
  have tk : (nI b).toInt = (b : Int) := nI_toInt (by omega)
  refine mC.of (L := [_, _, _, _]) okX7_earn 1 rfl rfl ?_
  refine x_aload_n (pc := 0) (i := 0) dX7_earn_0 rfl rfl ?_
  refine x_getR (pc := 1) hS fX7_28 dX7_earn_1 rfl rfl ?_
  refine x_iload_n (pc := 4) (i := 1) dX7_earn_4 rfl rfl ?_
  refine x_vs (pc := 5) (As := [_]) rfl hS lX7_123 dX7_earn_5 rfl rfl (Nat.le_of_ble_eq_true rfl) (c_X0_hasWalker_7 hS) ?_
  rintro _ _ ⟨rfl, hq⟩
  obtain rfl := hq.symm
  refine x_pushI ?_
  refine x_if_ne (pc := 8) (tgt := 13) dX7_earn_8 (by decide) (fun h8 => ?_) (fun h8 => absurd h8 (by rw [b2_n0]; exact ⟨by (try simp only [b2_e0, b2_n0, Decidable.not_not] at *) <;> (try simp only [i_lt, i_le, i_eq, not_and, not_or, ne_eq, il_0, il_1, il_2, il_3, il_4, il_5, il_6, il_7, il_8, il_9, il_10, il_14, il_15, il_19, il_20, il_24, il_30, il_31, il_44, il_48, il_49, il_52, il_57, il_59, il_60, il_70, il_99, il_100, il_103, il_108, il_114, il_m1, il_m2, il_m3, il_m4, il_m9, il_m10, il_m100] at *) <;> omega, by (try simp only [b2_e0, b2_n0, Decidable.not_not] at *) <;> (try simp only [i_lt, i_le, i_eq, not_and, not_or, ne_eq, il_0, il_1, il_2, il_3, il_4, il_5, il_6, il_7, il_8, il_9, il_10, il_14, il_15, il_19, il_20, il_24, il_30, il_31, il_44, il_48, il_49, il_52, il_57, il_59, il_60, il_70, il_99, il_100, il_103, il_108, il_114, il_m1, il_m2, il_m3, il_m4, il_m9, il_m10, il_m100] at *) <;> omega⟩))
  refine x_iload_n (pc := 13) (i := 2) dX7_earn_13 rfl rfl ?_
  refine x_if_lt (pc := 14) (tgt := 23) dX7_earn_14 (by decide) (fun h14 => ?_) (fun h14 => ?_)
  · refine x_bipush (pc := 23) (v := (-2)) dX7_earn_23 (by decide) ?_
    refine x_ri (pc := 25) dX7_earn_25 rfl rfl ?_
    rw [if_neg (c := 0 ≤ v ∧ v ≤ 99) (by (try simp only [b2_e0, b2_n0, Decidable.not_not] at *) <;> (try simp only [i_lt, i_le, i_eq, not_and, not_or, ne_eq, il_0, il_1, il_2, il_3, il_4, il_5, il_6, il_7, il_8, il_9, il_10, il_14, il_15, il_19, il_20, il_24, il_30, il_31, il_44, il_48, il_49, il_52, il_57, il_59, il_60, il_70, il_99, il_100, il_103, il_108, il_114, il_m1, il_m2, il_m3, il_m4, il_m9, il_m10, il_m100] at *) <;> omega), if_neg (c := 0 ≤ v ∧ v ≤ 99) (by (try simp only [b2_e0, b2_n0, Decidable.not_not] at *) <;> (try simp only [i_lt, i_le, i_eq, not_and, not_or, ne_eq, il_0, il_1, il_2, il_3, il_4, il_5, il_6, il_7, il_8, il_9, il_10, il_14, il_15, il_19, il_20, il_24, il_30, il_31, il_44, il_48, il_49, il_52, il_57, il_59, il_60, il_70, il_99, il_100, il_103, il_108, il_114, il_m1, il_m2, il_m3, il_m4, il_m9, il_m10, il_m100] at *) <;> omega)]; exact ⟨rfl, rfl⟩
  · refine x_iload_n (pc := 17) (i := 2) dX7_earn_17 rfl rfl ?_
    refine x_bipush (pc := 18) (v := 99) dX7_earn_18 (by decide) ?_
    refine x_icmp_le (pc := 20) (tgt := 26) dX7_earn_20 (by decide) (fun h20 => ?_) (fun h20 => ?_)
    · refine x_aload_n (pc := 26) (i := 0) dX7_earn_26 rfl rfl ?_
      refine x_getR (pc := 27) hS fX7_28 dX7_earn_27 rfl rfl ?_
      refine x_getR (pc := 30) hS fX7_126 dX7_earn_30 rfl rfl ?_
      refine x_iload_n (pc := 33) (i := 1) dX7_earn_33 rfl rfl ?_
      refine x_aldN (pc := 34) hS dX7_earn_34 rfl (by omega) (by decide) ?_
      refine x_istore_n (pc := 35) (i := 3) (L' := [_, _, _, _]) dX7_earn_35 rfl (by decide) rfl ?_
      refine x_aload_n (pc := 36) (i := 0) dX7_earn_36 rfl rfl ?_
      refine x_getR (pc := 37) hS fX7_28 dX7_earn_37 rfl rfl ?_
      refine x_getR (pc := 40) hS fX7_126 dX7_earn_40 rfl rfl ?_
      refine x_iload_n (pc := 43) (i := 1) dX7_earn_43 rfl rfl ?_
      refine x_iload_n (pc := 44) (i := 2) dX7_earn_44 rfl rfl ?_
      refine x_astN (pc := 45) hS dX7_earn_45 rfl (by omega) (by decide) (fun hS => ?_)
      refine x_iload_n (pc := 46) (i := 3) dX7_earn_46 rfl rfl ?_
      refine x_ri (pc := 47) dX7_earn_47 rfl rfl ?_
      rw [if_pos (c := 0 ≤ v ∧ v ≤ 99) (by (try simp only [b2_e0, b2_n0, Decidable.not_not] at *) <;> (try simp only [i_lt, i_le, i_eq, not_and, not_or, ne_eq, il_0, il_1, il_2, il_3, il_4, il_5, il_6, il_7, il_8, il_9, il_10, il_14, il_15, il_19, il_20, il_24, il_30, il_31, il_44, il_48, il_49, il_52, il_57, il_59, il_60, il_70, il_99, il_100, il_103, il_108, il_114, il_m1, il_m2, il_m3, il_m4, il_m9, il_m10, il_m100] at *) <;> omega), if_pos (c := 0 ≤ v ∧ v ≤ 99) (by (try simp only [b2_e0, b2_n0, Decidable.not_not] at *) <;> (try simp only [i_lt, i_le, i_eq, not_and, not_or, ne_eq, il_0, il_1, il_2, il_3, il_4, il_5, il_6, il_7, il_8, il_9, il_10, il_14, il_15, il_19, il_20, il_24, il_30, il_31, il_44, il_48, il_49, il_52, il_57, il_59, il_60, il_70, il_99, il_100, il_103, il_108, il_114, il_m1, il_m2, il_m3, il_m4, il_m9, il_m10, il_m100] at *) <;> omega)]; exact ⟨rfl, rfl⟩
    · refine x_bipush (pc := 23) (v := (-2)) dX7_earn_23 (by decide) ?_
      refine x_ri (pc := 25) dX7_earn_25 rfl rfl ?_
      rw [if_neg (c := 0 ≤ v ∧ v ≤ 99) (by (try simp only [b2_e0, b2_n0, Decidable.not_not] at *) <;> (try simp only [i_lt, i_le, i_eq, not_and, not_or, ne_eq, il_0, il_1, il_2, il_3, il_4, il_5, il_6, il_7, il_8, il_9, il_10, il_14, il_15, il_19, il_20, il_24, il_30, il_31, il_44, il_48, il_49, il_52, il_57, il_59, il_60, il_70, il_99, il_100, il_103, il_108, il_114, il_m1, il_m2, il_m3, il_m4, il_m9, il_m10, il_m100] at *) <;> omega), if_neg (c := 0 ≤ v ∧ v ≤ 99) (by (try simp only [b2_e0, b2_n0, Decidable.not_not] at *) <;> (try simp only [i_lt, i_le, i_eq, not_and, not_or, ne_eq, il_0, il_1, il_2, il_3, il_4, il_5, il_6, il_7, il_8, il_9, il_10, il_14, il_15, il_19, il_20, il_24, il_30, il_31, il_44, il_48, il_49, il_52, il_57, il_59, il_60, il_70, il_99, il_100, il_103, il_108, il_114, il_m1, il_m2, il_m3, il_m4, il_m9, il_m10, il_m100] at *) <;> omega)]; exact ⟨rfl, rfl⟩
theorem c_X8_earn_no {d : Nat} {w : mW} {b v : Int32} (hS : Shape w) (h : ¬ (0 ≤ b ∧ b < fld w 44 6)) : mC (d + 1) kX8_earn [.ref 44, .int b, .int v] w (fun r w' => r = some (.int (-1)) ∧ w' = w) := by
  refine mC.of (L := [_, _, _, _]) okX8_earn 1 rfl rfl ?_
  refine x_aload_n (pc := 0) (i := 0) dX8_earn_0 rfl rfl ?_
  refine x_iload_n (pc := 1) (i := 1) dX8_earn_1 rfl rfl ?_
  refine x_vs (pc := 2) (As := [_]) rfl hS lX8_161 dX8_earn_2 rfl rfl (Nat.le_of_ble_eq_true rfl) (c_X8_isWalker hS) ?_
  rintro _ _ ⟨rfl, hq⟩
  obtain rfl := hq.symm
  refine x_pushI ?_
  refine x_if_ne (pc := 5) (tgt := 10) dX8_earn_5 (by decide) (fun h5 => absurd h5 (by rw [b2_n0]; exact h)) (fun h5 => ?_)
  refine x_iconst (pc := 8) (v := (-1)) dX8_earn_8 (by decide) ?_
  refine x_ri (pc := 9) dX8_earn_9 rfl rfl ?_
  exact ⟨rfl, rfl⟩
theorem c_X8_earn {d : Nat} {w : mW} {v : Int32} {b nb : Nat} (hS : Shape w) (tb : (fld w 44 6).toInt = (nb : Int)) (hnb : nb ≤ 5) (hb : b < nb) : mC (d + 1) kX8_earn [.ref 44, .int (nI b), .int v] w (fun r w' => r = some (.int (if 0 ≤ v ∧ v ≤ 99 then arr w 52 b else -2)) ∧ w' = if 0 ≤ v ∧ v ≤ 99 then setA w 52 (upd (arr w 52) b v) else w) := by
  have tk : (nI b).toInt = (b : Int) := nI_toInt (by omega)
  refine mC.of (L := [_, _, _, _]) okX8_earn 1 rfl rfl ?_
  refine x_aload_n (pc := 0) (i := 0) dX8_earn_0 rfl rfl ?_
  refine x_iload_n (pc := 1) (i := 1) dX8_earn_1 rfl rfl ?_
  refine x_vs (pc := 2) (As := [_]) rfl hS lX8_161 dX8_earn_2 rfl rfl (Nat.le_of_ble_eq_true rfl) (c_X8_isWalker hS) ?_
  rintro _ _ ⟨rfl, hq⟩
  obtain rfl := hq.symm
  refine x_pushI ?_
  refine x_if_ne (pc := 5) (tgt := 10) dX8_earn_5 (by decide) (fun h5 => ?_) (fun h5 => absurd h5 (by rw [b2_n0]; exact ⟨by (try simp only [b2_e0, b2_n0, Decidable.not_not] at *) <;> (try simp only [i_lt, i_le, i_eq, not_and, not_or, ne_eq, il_0, il_1, il_2, il_3, il_4, il_5, il_6, il_7, il_8, il_9, il_10, il_14, il_15, il_19, il_20, il_24, il_30, il_31, il_44, il_48, il_49, il_52, il_57, il_59, il_60, il_70, il_99, il_100, il_103, il_108, il_114, il_m1, il_m2, il_m3, il_m4, il_m9, il_m10, il_m100] at *) <;> omega, by (try simp only [b2_e0, b2_n0, Decidable.not_not] at *) <;> (try simp only [i_lt, i_le, i_eq, not_and, not_or, ne_eq, il_0, il_1, il_2, il_3, il_4, il_5, il_6, il_7, il_8, il_9, il_10, il_14, il_15, il_19, il_20, il_24, il_30, il_31, il_44, il_48, il_49, il_52, il_57, il_59, il_60, il_70, il_99, il_100, il_103, il_108, il_114, il_m1, il_m2, il_m3, il_m4, il_m9, il_m10, il_m100] at *) <;> omega⟩))
  refine x_iload_n (pc := 10) (i := 2) dX8_earn_10 rfl rfl ?_
  refine x_iconst (pc := 11) (v := 0) dX8_earn_11 (by decide) ?_
  refine x_bipush (pc := 12) (v := 99) dX8_earn_12 (by decide) ?_
  refine x_ss (pc := 14) (As := [_, _, _]) rfl lX8_88 dX8_earn_14 rfl (Nat.le_of_ble_eq_true rfl) c_X8_within ?_
  rintro _ _ ⟨rfl, hq⟩
  obtain rfl := hq.symm
  refine x_pushI ?_
  refine x_if_ne (pc := 17) (tgt := 23) dX8_earn_17 (by decide) (fun h17 => ?_) (fun h17 => ?_)
  · refine x_aload_n (pc := 23) (i := 0) dX8_earn_23 rfl rfl ?_
    refine x_getR (pc := 24) hS fX8_31 dX8_earn_24 rfl rfl ?_
    refine x_iload_n (pc := 27) (i := 1) dX8_earn_27 rfl rfl ?_
    refine x_aldN (pc := 28) hS dX8_earn_28 rfl (by omega) (by decide) ?_
    refine x_istore_n (pc := 29) (i := 3) (L' := [_, _, _, _]) dX8_earn_29 rfl (by decide) rfl ?_
    refine x_aload_n (pc := 30) (i := 0) dX8_earn_30 rfl rfl ?_
    refine x_getR (pc := 31) hS fX8_31 dX8_earn_31 rfl rfl ?_
    refine x_iload_n (pc := 34) (i := 1) dX8_earn_34 rfl rfl ?_
    refine x_iload_n (pc := 35) (i := 2) dX8_earn_35 rfl rfl ?_
    refine x_astN (pc := 36) hS dX8_earn_36 rfl (by omega) (by decide) (fun hS => ?_)
    refine x_iload_n (pc := 37) (i := 3) dX8_earn_37 rfl rfl ?_
    refine x_ri (pc := 38) dX8_earn_38 rfl rfl ?_
    rw [if_pos (c := 0 ≤ v ∧ v ≤ 99) (by (try simp only [b2_e0, b2_n0, Decidable.not_not] at *) <;> (try simp only [i_lt, i_le, i_eq, not_and, not_or, ne_eq, il_0, il_1, il_2, il_3, il_4, il_5, il_6, il_7, il_8, il_9, il_10, il_14, il_15, il_19, il_20, il_24, il_30, il_31, il_44, il_48, il_49, il_52, il_57, il_59, il_60, il_70, il_99, il_100, il_103, il_108, il_114, il_m1, il_m2, il_m3, il_m4, il_m9, il_m10, il_m100] at *) <;> omega), if_pos (c := 0 ≤ v ∧ v ≤ 99) (by (try simp only [b2_e0, b2_n0, Decidable.not_not] at *) <;> (try simp only [i_lt, i_le, i_eq, not_and, not_or, ne_eq, il_0, il_1, il_2, il_3, il_4, il_5, il_6, il_7, il_8, il_9, il_10, il_14, il_15, il_19, il_20, il_24, il_30, il_31, il_44, il_48, il_49, il_52, il_57, il_59, il_60, il_70, il_99, il_100, il_103, il_108, il_114, il_m1, il_m2, il_m3, il_m4, il_m9, il_m10, il_m100] at *) <;> omega)]; exact ⟨rfl, rfl⟩
  · refine x_bipush (pc := 20) (v := (-2)) dX8_earn_20 (by decide) ?_
    refine x_ri (pc := 22) dX8_earn_22 rfl rfl ?_
    rw [if_neg (c := 0 ≤ v ∧ v ≤ 99) (by (try simp only [b2_e0, b2_n0, Decidable.not_not] at *) <;> (try simp only [i_lt, i_le, i_eq, not_and, not_or, ne_eq, il_0, il_1, il_2, il_3, il_4, il_5, il_6, il_7, il_8, il_9, il_10, il_14, il_15, il_19, il_20, il_24, il_30, il_31, il_44, il_48, il_49, il_52, il_57, il_59, il_60, il_70, il_99, il_100, il_103, il_108, il_114, il_m1, il_m2, il_m3, il_m4, il_m9, il_m10, il_m100] at *) <;> omega), if_neg (c := 0 ≤ v ∧ v ≤ 99) (by (try simp only [b2_e0, b2_n0, Decidable.not_not] at *) <;> (try simp only [i_lt, i_le, i_eq, not_and, not_or, ne_eq, il_0, il_1, il_2, il_3, il_4, il_5, il_6, il_7, il_8, il_9, il_10, il_14, il_15, il_19, il_20, il_24, il_30, il_31, il_44, il_48, il_49, il_52, il_57, il_59, il_60, il_70, il_99, il_100, il_103, il_108, il_114, il_m1, il_m2, il_m3, il_m4, il_m9, il_m10, il_m100] at *) <;> omega)]; exact ⟨rfl, rfl⟩
theorem both_earn {w : mW} (hI : Inv w) (b v : Int32) : Both kX7_earn kX8_earn [.int b, .int v] w := by
  intro d
  obtain ⟨hS, nb, nw, nr, hD, hR, hSI, hT⟩ := id hI; obtain ⟨h1, h2, h3, tb, tw, hB, hW, ⟨e1, e2, e3⟩, f8, f9, f10, f11, f12, f13, f14, f15, f16⟩ := id hD
  by_cases hb : 0 ≤ b ∧ b < fld w 7 1
  · obtain ⟨j, hj, rfl⟩ := in_nI tw (by omega) hb
    refine mC.mono (c_X7_earn (d := d + 19) hS tw h2 hj) ?_
    by_cases hv : 0 ≤ v ∧ v ≤ 99
    · simp only [if_pos hv]
      rintro _ w1 ⟨rfl, hq⟩
      subst hq
      have hS1 := hS.stA 12 (upd (arr w 12) j v)
      have q1 : arr (setA w 12 (upd (arr w 12) j v)) 52 = arr w 12 := by rw [arr_setA_a (by decide), f12]
      refine mC.mono (c_X8_earn (d := d + 19) hS1 (by rw [fld_setA, e2]; exact tw) h2 hj) ?_
      simp only [if_pos hv, q1]
      rintro _ w2 ⟨rfl, hq⟩
      subst hq
      have g : Gr [12, 52] [] w (setA (setA w 12 (upd (arr w 12) j v)) 52 (upd (arr w 12) j v)) := (Gr.rf.stA (by decide) _).stA (by decide) _
      have hv' : 0 ≤ v.toInt ∧ v.toInt ≤ 99 := by (try simp only [b2_e0, b2_n0, Decidable.not_not] at *) <;> (try simp only [i_lt, i_le, i_eq, not_and, not_or, ne_eq, il_0, il_1, il_2, il_3, il_4, il_5, il_6, il_7, il_8, il_9, il_10, il_14, il_15, il_19, il_20, il_24, il_30, il_31, il_44, il_48, il_49, il_52, il_57, il_59, il_60, il_70, il_99, il_100, il_103, il_108, il_114, il_m1, il_m2, il_m3, il_m4, il_m9, il_m10, il_m100] at *) <;> omega
      have q2 : arr (setA (setA w 12 (upd (arr w 12) j v)) 52 (upd (arr w 12) j v)) 12 = upd (arr w 12) j v := by rw [arr_setA_a (by decide), arr_setA hS rfl]
      refine ⟨rfl, hS1.stA _ _, nb, nw, nr, hD.ch (g.up (by decide) (by decide)) ?_ ?_ ?_ ?_ ?_ ?_ ?_ ?_, hR.gr g (by decide) (by decide), hSI.gr g (by decide), hT.gr g (by decide)⟩
      · rw [g.1 50 (by decide), g.1 10 (by decide), f10]
      · rw [q2, arr_setA hS1 rfl]
      · rw [g.1 53 (by decide), g.1 13 (by decide), f13]
      · rw [g.1 55 (by decide), g.1 15 (by decide), f15]
      · rw [g.1 56 (by decide), g.1 16 (by decide), f16]
      · rw [g.2 44 7 (by decide), g.2 7 2 (by decide), e3]
      · rw [g.1 10 (by decide)]; exact hB
      · rw [q2, g.1 13 (by decide), g.1 15 (by decide)]; exact hW.me hv'
    · simp only [if_neg hv]
      rintro _ w1 ⟨rfl, hq⟩
      subst hq
      refine mC.mono (c_X8_earn (d := d + 19) hS (by rw [e2]; exact tw) h2 hj) ?_
      simp only [if_neg hv]
      rintro _ w2 ⟨rfl, hq⟩
      subst hq
      exact ⟨rfl, hI⟩
  · refine mC.mono (c_X7_earn_no (d := d + 19) hS hb) ?_
    rintro _ _ ⟨rfl, hq⟩; obtain rfl := hq.symm
    refine mC.mono (c_X8_earn_no (d := d + 19) hS (by rw [e2]; exact hb)) ?_
    rintro _ _ ⟨rfl, hq⟩; obtain rfl := hq.symm
    exact ⟨rfl, hI⟩

