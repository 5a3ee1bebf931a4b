-- leave, lodge
theorem c_X7_leave_no {d : Nat} {w : mW} {b : Int32} (hS : Shape w) (h : ¬ (0 ≤ b ∧ b < fld w 7 1)) : mC (d + 1) kX7_leave [.ref 0, .int b] w (fun r w' => r = some (.int (-1)) ∧ w' = w) := by
  refine mC.of (L := [_, _, _]) okX7_leave 1 rfl rfl ?_
  refine x_aload_n (pc := 0) (i := 0) dX7_leave_0 rfl rfl ?_
  refine x_getR (pc := 1) hS fX7_28 dX7_leave_1 rfl rfl ?_
  refine x_iload_n (pc := 4) (i := 1) dX7_leave_4 rfl rfl ?_
  refine x_vs (pc := 5) (As := [_]) rfl hS lX7_123 dX7_leave_5 rfl rfl (Nat.le_of_ble_eq_true rfl) (c_X0_hasWalker_7 hS) ?_
  rintro _ _ ⟨rfl, hq⟩
  obtain rfl := hq.symm
  refine x_pushI ?_
  refine x_if_ne (pc := 8) (tgt := 13) dX7_leave_8 (by decide) (fun h8 => absurd h8 (by rw [b2_n0]; exact h)) (fun h8 => ?_)
  refine x_iconst (pc := 11) (v := (-1)) dX7_leave_11 (by decide) ?_
  refine x_ri (pc := 12) dX7_leave_12 rfl rfl ?_
  exact ⟨rfl, rfl⟩
theorem c_X7_leave {d : Nat} {w : mW} {v nb nw : Nat} (hS : Shape w) (tb : (fld w 7 0).toInt = (nb : Int)) (hnb : nb ≤ 5) (tw : (fld w 7 1).toInt = (nw : Int)) (hnw : nw ≤ 5) (hv : v < nw) : mC (d + 2) kX7_leave [.ref 0, .int (nI v)] w (fun r w' => r = some (.int (if inB (fld w 7 0) (arr w 15) v then arr w 15 v else -3)) ∧ w' = if inB (fld w 7 0) (arr w 15) v then setA w 15 (upd (arr w 15) v (-9)) else w) := by
  have tv : (nI v).toInt = (v : Int) := nI_toInt (by omega)
  have cv : (nI v).toNatClampNeg = v := nI_clamp (by omega)
  refine mC.of (L := [_, _, _]) okX7_leave 1 rfl rfl ?_
  refine x_aload_n (pc := 0) (i := 0) dX7_leave_0 rfl rfl ?_
  refine x_getR (pc := 1) hS fX7_28 dX7_leave_1 rfl rfl ?_
  refine x_iload_n (pc := 4) (i := 1) dX7_leave_4 rfl rfl ?_
  refine x_vs (pc := 5) (As := [_]) rfl hS lX7_123 dX7_leave_5 rfl rfl (Nat.le_of_ble_eq_true rfl) (c_X0_hasWalker_7 hS) ?_
  rintro _ _ ⟨rfl, hq⟩
  obtain rfl := hq.symm
  refine x_pushI ?_
  refine x_if_ne (pc := 8) (tgt := 13) dX7_leave_8 (by decide) (fun h8 => ?_) (fun h8 => absurd h8 (by rw [b2_n0]; exact ⟨by (try simp only [b2_e0, b2_n0, Decidable.not_not] at *) <;> (try simp only [i_lt, i_le, i_eq, not_and, not_or, ne_eq, il_0, il_1, il_2, il_3, il_4, il_5, il_6, il_7, il_8, il_9, il_10, il_14, il_15, il_19, il_20, il_24, il_30, il_31, il_44, il_48, il_49, il_52, il_57, il_59, il_60, il_70, il_99, il_100, il_103, il_108, il_114, il_m1, il_m2, il_m3, il_m4, il_m9, il_m10, il_m100] at *) <;> omega, by (try simp only [b2_e0, b2_n0, Decidable.not_not] at *) <;> (try simp only [i_lt, i_le, i_eq, not_and, not_or, ne_eq, il_0, il_1, il_2, il_3, il_4, il_5, il_6, il_7, il_8, il_9, il_10, il_14, il_15, il_19, il_20, il_24, il_30, il_31, il_44, il_48, il_49, il_52, il_57, il_59, il_60, il_70, il_99, il_100, il_103, il_108, il_114, il_m1, il_m2, il_m3, il_m4, il_m9, il_m10, il_m100] at *) <;> omega⟩))
  refine x_aload_n (pc := 13) (i := 0) dX7_leave_13 rfl rfl ?_
  refine x_getR (pc := 14) hS fX7_28 dX7_leave_14 rfl rfl ?_
  refine x_getR (pc := 17) hS fX7_135 dX7_leave_17 rfl rfl ?_
  refine x_iload_n (pc := 20) (i := 1) dX7_leave_20 rfl rfl ?_
  refine x_aldN (pc := 21) hS dX7_leave_21 rfl (by omega) (by decide) ?_
  refine x_istore_n (pc := 22) (i := 2) (L' := [_, _, _]) dX7_leave_22 rfl (by decide) rfl ?_
  refine x_aload_n (pc := 23) (i := 0) dX7_leave_23 rfl rfl ?_
  refine x_getR (pc := 24) hS fX7_28 dX7_leave_24 rfl rfl ?_
  refine x_iload_n (pc := 27) (i := 1) dX7_leave_27 rfl rfl ?_
  refine x_vs (pc := 28) (As := [_]) rfl hS lX7_153 dX7_leave_28 rfl rfl (Nat.le_of_ble_eq_true rfl) (c_X0_goOut_7 hS tb hnb tw hnw) ?_
  rintro _ w1 ⟨rfl, hq⟩
  simp only [cv] at hq
  rw [cv]
  refine x_pushI ?_
  refine x_if_ne (pc := 31) (tgt := 37) dX7_leave_31 (by decide) (fun h31 => ?_) (fun h31 => ?_)
  · refine x_iload_n (pc := 37) (i := 2) dX7_leave_37 rfl rfl ?_
    refine x_ri (pc := 38) dX7_leave_38 rfl rfl ?_
    have hz := b2_n0.mp h31
    rw [if_pos hz] at hq
    have hy : inB (fld w 7 0) (arr w 15) v := hz.2
    rw [if_pos hy, if_pos hy]
    exact ⟨rfl, hq⟩
  · refine x_bipush (pc := 34) (v := (-3)) dX7_leave_34 (by decide) ?_
    refine x_ri (pc := 36) dX7_leave_36 rfl rfl ?_
    have hz := b2_e0.mp h31
    rw [if_neg hz] at hq
    have hy : ¬ inB (fld w 7 0) (arr w 15) v := fun z => hz ⟨⟨by (try simp only [b2_e0, b2_n0, Decidable.not_not] at *) <;> (try simp only [i_lt, i_le, i_eq, not_and, not_or, ne_eq, il_0, il_1, il_2, il_3, il_4, il_5, il_6, il_7, il_8, il_9, il_10, il_14, il_15, il_19, il_20, il_24, il_30, il_31, il_44, il_48, il_49, il_52, il_57, il_59, il_60, il_70, il_99, il_100, il_103, il_108, il_114, il_m1, il_m2, il_m3, il_m4, il_m9, il_m10, il_m100] at *) <;> omega, by (try simp only [b2_e0, b2_n0, Decidable.not_not] at *) <;> (try simp only [i_lt, i_le, i_eq, not_and, not_or, ne_eq, il_0, il_1, il_2, il_3, il_4, il_5, il_6, il_7, il_8, il_9, il_10, il_14, il_15, il_19, il_20, il_24, il_30, il_31, il_44, il_48, il_49, il_52, il_57, il_59, il_60, il_70, il_99, il_100, il_103, il_108, il_114, il_m1, il_m2, il_m3, il_m4, il_m9, il_m10, il_m100] at *) <;> omega⟩, z⟩
    rw [if_neg hy, if_neg hy]
    exact ⟨rfl, hq⟩
theorem c_X8_leave_no {d : Nat} {w : mW} {b : Int32} (hS : Shape w) (h : ¬ (0 ≤ b ∧ b < fld w 44 6)) : mC (d + 1) kX8_leave [.ref 44, .int b] w (fun r w' => r = some (.int (-1)) ∧ w' = w) := by
  refine mC.of (L := [_, _, _]) okX8_leave 1 rfl rfl ?_
  refine x_aload_n (pc := 0) (i := 0) dX8_leave_0 rfl rfl ?_
  refine x_iload_n (pc := 1) (i := 1) dX8_leave_1 rfl rfl ?_
  refine x_vs (pc := 2) (As := [_]) rfl hS lX8_161 dX8_leave_2 rfl rfl (Nat.le_of_ble_eq_true rfl) (c_X8_isWalker hS) ?_
  rintro _ _ ⟨rfl, hq⟩
  obtain rfl := hq.symm
  refine x_pushI ?_
  refine x_if_ne (pc := 5) (tgt := 10) dX8_leave_5 (by decide) (fun h5 => absurd h5 (by rw [b2_n0]; exact h)) (fun h5 => ?_)
  refine x_iconst (pc := 8) (v := (-1)) dX8_leave_8 (by decide) ?_
  refine x_ri (pc := 9) dX8_leave_9 rfl rfl ?_
  exact ⟨rfl, rfl⟩
theorem c_X8_leave {d : Nat} {w : mW} {v nw : Nat} (hS : Shape w) (tw : (fld w 44 6).toInt = (nw : Int)) (hnw : nw ≤ 5) (hv : v < nw) : mC (d + 1) kX8_leave [.ref 44, .int (nI v)] w (fun r w' => r = some (.int (if arr w 55 v = -9 then -3 else arr w 55 v)) ∧ w' = if arr w 55 v = -9 then w else setA w 55 (upd (arr w 55) v (-9))) := by
  have tv : (nI v).toInt = (v : Int) := nI_toInt (by omega)
  refine mC.of (L := [_, _, _]) okX8_leave 1 rfl rfl ?_
  refine x_aload_n (pc := 0) (i := 0) dX8_leave_0 rfl rfl ?_
  refine x_iload_n (pc := 1) (i := 1) dX8_leave_1 rfl rfl ?_
  refine x_vs (pc := 2) (As := [_]) rfl hS lX8_161 dX8_leave_2 rfl rfl (Nat.le_of_ble_eq_true rfl) (c_X8_isWalker hS) ?_
  rintro _ _ ⟨rfl, hq⟩
  obtain rfl := hq.symm
  refine x_pushI ?_
  refine x_if_ne (pc := 5) (tgt := 10) dX8_leave_5 (by decide) (fun h5 => ?_) (fun h5 => absurd h5 (by rw [b2_n0]; exact ⟨by (try simp only [b2_e0, b2_n0, Decidable.not_not] at *) <;> (try simp only [i_lt, i_le, i_eq, not_and, not_or, ne_eq, il_0, il_1, il_2, il_3, il_4, il_5, il_6, il_7, il_8, il_9, il_10, il_14, il_15, il_19, il_20, il_24, il_30, il_31, il_44, il_48, il_49, il_52, il_57, il_59, il_60, il_70, il_99, il_100, il_103, il_108, il_114, il_m1, il_m2, il_m3, il_m4, il_m9, il_m10, il_m100] at *) <;> omega, by (try simp only [b2_e0, b2_n0, Decidable.not_not] at *) <;> (try simp only [i_lt, i_le, i_eq, not_and, not_or, ne_eq, il_0, il_1, il_2, il_3, il_4, il_5, il_6, il_7, il_8, il_9, il_10, il_14, il_15, il_19, il_20, il_24, il_30, il_31, il_44, il_48, il_49, il_52, il_57, il_59, il_60, il_70, il_99, il_100, il_103, il_108, il_114, il_m1, il_m2, il_m3, il_m4, il_m9, il_m10, il_m100] at *) <;> omega⟩))
  refine x_aload_n (pc := 10) (i := 0) dX8_leave_10 rfl rfl ?_
  refine x_getR (pc := 11) hS fX8_40 dX8_leave_11 rfl rfl ?_
  refine x_iload_n (pc := 14) (i := 1) dX8_leave_14 rfl rfl ?_
  refine x_aldN (pc := 15) hS dX8_leave_15 rfl (by omega) (by decide) ?_
  refine x_bipush (pc := 16) (v := (-9)) dX8_leave_16 (by decide) ?_
  refine x_icmp_ne (pc := 18) (tgt := 24) dX8_leave_18 (by decide) (fun h18 => ?_) (fun h18 => ?_)
  · refine x_aload_n (pc := 24) (i := 0) dX8_leave_24 rfl rfl ?_
    refine x_getR (pc := 25) hS fX8_40 dX8_leave_25 rfl rfl ?_
    refine x_iload_n (pc := 28) (i := 1) dX8_leave_28 rfl rfl ?_
    refine x_aldN (pc := 29) hS dX8_leave_29 rfl (by omega) (by decide) ?_
    refine x_istore_n (pc := 30) (i := 2) (L' := [_, _, _]) dX8_leave_30 rfl (by decide) rfl ?_
    refine x_aload_n (pc := 31) (i := 0) dX8_leave_31 rfl rfl ?_
    refine x_getR (pc := 32) hS fX8_40 dX8_leave_32 rfl rfl ?_
    refine x_iload_n (pc := 35) (i := 1) dX8_leave_35 rfl rfl ?_
    refine x_bipush (pc := 36) (v := (-9)) dX8_leave_36 (by decide) ?_
    refine x_astN (pc := 38) hS dX8_leave_38 rfl (by omega) (by decide) (fun hS => ?_)
    refine x_iload_n (pc := 39) (i := 2) dX8_leave_39 rfl rfl ?_
    refine x_ri (pc := 40) dX8_leave_40 rfl rfl ?_
    rw [if_neg h18, if_neg h18]; exact ⟨rfl, rfl⟩
  · refine x_bipush (pc := 21) (v := (-3)) dX8_leave_21 (by decide) ?_
    refine x_ri (pc := 23) dX8_leave_23 rfl rfl ?_
    rw [if_pos h18, if_pos h18]; exact ⟨rfl, rfl⟩
theorem both_leave {w : mW} (hI : Inv w) (b : Int32) : Both kX7_leave kX8_leave [.int b] w := by
  intro d
  obtain ⟨hS, nb, nw, nr, hD, hR, hSI, hT⟩ := id hI; obtain ⟨h1, h2, h3, tb, tw, hB, hW, ⟨e1, e2, e3⟩, f8, f9, f10, f11, f12, f13, f14, f15, f16⟩ := id hD
  by_cases hb : 0 ≤ b ∧ b < fld w 7 1
  · obtain ⟨j, hj, rfl⟩ := in_nI tw (by omega) hb
    refine mC.mono (c_X7_leave (d := d + 18) hS tb h1 tw h2 hj) ?_
    rcases lo_or hW tb h1 hj with ⟨g1, g2⟩ | ⟨g1, g2⟩
    · simp only [if_neg g2]
      rintro _ w1 ⟨rfl, hq⟩
      subst hq
      refine mC.mono (c_X8_leave (d := d + 19) hS (by rw [e2]; exact tw) h2 hj) ?_
      simp only [f15, if_pos g1]
      rintro _ w2 ⟨rfl, hq⟩
      subst hq
      exact ⟨rfl, hI⟩
    · simp only [if_pos g2]
      rintro _ w1 ⟨rfl, hq⟩
      subst hq
      have hS1 := hS.stA 15 (upd (arr w 15) j (-9))
      have q1 : arr (setA w 15 (upd (arr w 15) j (-9))) 55 = arr w 15 := by rw [arr_setA_a (by decide), f15]
      refine mC.mono (c_X8_leave (d := d + 19) hS1 (by rw [fld_setA, e2]; exact tw) h2 hj) ?_
      simp only [q1, if_neg g1]
      rintro _ w2 ⟨rfl, hq⟩
      subst hq
      have g : Gr [15, 55] [] w (setA (setA w 15 (upd (arr w 15) j (-9))) 55 (upd (arr w 15) j (-9))) := (Gr.rf.stA (by decide) _).stA (by decide) _
      have q2 : arr (setA (setA w 15 (upd (arr w 15) j (-9))) 55 (upd (arr w 15) j (-9))) 15 = upd (arr w 15) j (-9) := by rw [arr_setA_a (by decide), arr_setA hS rfl]
      refine ⟨rfl, hS1.stA _ _, nb, nw, nr, hD.ch (g.up (by decide) (by decide)) ?_ ?_ ?_ ?_ ?_ ?_ ?_ ?_, hR.gr g (by decide) (by decide), hSI.gr g (by decide), hT.gr g (by decide)⟩
      · rw [g.1 50 (by decide), g.1 10 (by decide), f10]
      · rw [g.1 52 (by decide), g.1 12 (by decide), f12]
      · rw [g.1 53 (by decide), g.1 13 (by decide), f13]
      · rw [q2, arr_setA hS1 rfl]
      · rw [g.1 56 (by decide), g.1 16 (by decide), f16]
      · rw [g.2 44 7 (by decide), g.2 7 2 (by decide), e3]
      · rw [g.1 10 (by decide)]; exact hB
      · rw [q2, g.1 12 (by decide), g.1 13 (by decide)]; exact hW.lo (Or.inl rfl)
  · refine mC.mono (c_X7_leave_no (d := d + 19) hS hb) ?_
    rintro _ _ ⟨rfl, hq⟩; obtain rfl := hq.symm
    refine mC.mono (c_X8_leave_no (d := d + 19) hS (by rw [e2]; exact hb)) ?_
    rintro _ _ ⟨rfl, hq⟩; obtain rfl := hq.symm
    exact ⟨rfl, hI⟩
theorem c_X7_lodge_no {d : Nat} {w : mW} {v b : Int32} (hS : Shape w) (h : ¬ ((0 ≤ v ∧ v < fld w 7 1) ∧ 0 ≤ b ∧ b < fld w 7 0)) : mC (d + 1) kX7_lodge [.ref 0, .int v, .int b] w (fun r w' => r = some (.int (-1)) ∧ w' = w) := by
  refine mC.of (L := [_, _, _]) okX7_lodge 0 rfl rfl ?_
  refine x_aload_n (pc := 0) (i := 0) dX7_lodge_0 rfl rfl ?_
  refine x_getR (pc := 1) hS fX7_28 dX7_lodge_1 rfl rfl ?_
  refine x_iload_n (pc := 4) (i := 1) dX7_lodge_4 rfl rfl ?_
  refine x_vs (pc := 5) (As := [_]) rfl hS lX7_123 dX7_lodge_5 rfl rfl (Nat.le_of_ble_eq_true rfl) (c_X0_hasWalker_7 hS) ?_
  rintro _ _ ⟨rfl, hq⟩
  obtain rfl := hq.symm
  refine x_pushI ?_
  refine x_if_eq (pc := 8) (tgt := 22) dX7_lodge_8 (by decide) (fun h8 => ?_) (fun h8 => ?_)
  · refine x_iconst (pc := 22) (v := (-1)) dX7_lodge_22 (by decide) ?_
    refine x_ri (pc := 23) dX7_lodge_23 rfl rfl ?_
    exact ⟨rfl, rfl⟩
  · refine x_aload_n (pc := 11) (i := 0) dX7_lodge_11 rfl rfl ?_
    refine x_getR (pc := 12) hS fX7_28 dX7_lodge_12 rfl rfl ?_
    refine x_iload_n (pc := 15) (i := 2) dX7_lodge_15 rfl rfl ?_
    refine x_vs (pc := 16) (As := [_]) rfl hS lX7_100 dX7_lodge_16 rfl rfl (Nat.le_of_ble_eq_true rfl) (c_X0_hasBarrow_7 hS) ?_
    rintro _ _ ⟨rfl, hq⟩
    obtain rfl := hq.symm
    refine x_pushI ?_
    refine x_if_ne (pc := 19) (tgt := 24) dX7_lodge_19 (by decide) (fun h19 => ?_) (fun h19 => ?_)
    · exfalso; (try simp only [b2_e0, b2_n0, Decidable.not_not] at *) <;> (try simp only [i_lt, i_le, i_eq, not_and, not_or, ne_eq, il_0, il_1, il_2, il_3, il_4, il_5, il_6, il_7, il_8, il_9, il_10, il_14, il_15, il_19, il_20, il_24, il_30, il_31, il_44, il_48, il_49, il_52, il_57, il_59, il_60, il_70, il_99, il_100, il_103, il_108, il_114, il_m1, il_m2, il_m3, il_m4, il_m9, il_m10, il_m100] at *) <;> omega
    · refine x_iconst (pc := 22) (v := (-1)) dX7_lodge_22 (by decide) ?_
      refine x_ri (pc := 23) dX7_lodge_23 rfl rfl ?_
      exact ⟨rfl, rfl⟩
theorem c_X7_lodge {d : Nat} {w : mW} {v b nb nw : Nat} (hS0 : Shape w) (tb : (fld w 7 0).toInt = (nb : Int)) (hnb : nb ≤ 5) (tw : (fld w 7 1).toInt = (nw : Int)) (hnw : nw ≤ 5) (hv : v < nw) (hb : b < nb) : mC (d + 4) kX7_lodge [.ref 0, .int (nI v), .int (nI b)] w (fun r w' => r = some (.int (if canE (fld w 7 0) (fld w 7 1) nw (arr w 8) (arr w 9) (arr w 10) (arr w 11) (arr w 12) (arr w 13) (arr w 14) (arr w 15) (nI v) (nI b) then nI (cntN (lodgP (upd (arr w 15) v (nI b)) (nI b)) nw) else -3)) ∧ w' = if canE (fld w 7 0) (fld w 7 1) nw (arr w 8) (arr w 9) (arr w 10) (arr w 11) (arr w 12) (arr w 13) (arr w 14) (arr w 15) (nI v) (nI b) then setA (setA w 15 (upd (arr w 15) v (nI b))) 13 (upd (arr w 13) v (arr w 11 b)) else w) := by
  have tv : (nI v).toInt = (v : Int) := nI_toInt (by omega)
  have cv : (nI v).toNatClampNeg = v := nI_clamp (by omega)
  have tbb : (nI b).toInt = (b : Int) := nI_toInt (by omega)
  have cb : (nI b).toNatClampNeg = b := nI_clamp (by omega)
  have hS := hS0
  refine mC.of (L := [_, _, _]) okX7_lodge 0 rfl rfl ?_
  refine x_aload_n (pc := 0) (i := 0) dX7_lodge_0 rfl rfl ?_
  refine x_getR (pc := 1) hS fX7_28 dX7_lodge_1 rfl rfl ?_
  refine x_iload_n (pc := 4) (i := 1) dX7_lodge_4 rfl rfl ?_
  refine x_vs (pc := 5) (As := [_]) rfl hS lX7_123 dX7_lodge_5 rfl rfl (Nat.le_of_ble_eq_true rfl) (c_X0_hasWalker_7 hS) ?_
  rintro _ _ ⟨rfl, hq⟩
  obtain rfl := hq.symm
  refine x_pushI ?_
  refine x_if_eq (pc := 8) (tgt := 22) dX7_lodge_8 (by decide) (fun h8 => absurd h8 (by rw [b2_e0]; exact not_not_intro ⟨by (try simp only [b2_e0, b2_n0, Decidable.not_not] at *) <;> (try simp only [i_lt, i_le, i_eq, not_and, not_or, ne_eq, il_0, il_1, il_2, il_3, il_4, il_5, il_6, il_7, il_8, il_9, il_10, il_14, il_15, il_19, il_20, il_24, il_30, il_31, il_44, il_48, il_49, il_52, il_57, il_59, il_60, il_70, il_99, il_100, il_103, il_108, il_114, il_m1, il_m2, il_m3, il_m4, il_m9, il_m10, il_m100] at *) <;> omega, by (try simp only [b2_e0, b2_n0, Decidable.not_not] at *) <;> (try simp only [i_lt, i_le, i_eq, not_and, not_or, ne_eq, il_0, il_1, il_2, il_3, il_4, il_5, il_6, il_7, il_8, il_9, il_10, il_14, il_15, il_19, il_20, il_24, il_30, il_31, il_44, il_48, il_49, il_52, il_57, il_59, il_60, il_70, il_99, il_100, il_103, il_108, il_114, il_m1, il_m2, il_m3, il_m4, il_m9, il_m10, il_m100] at *) <;> omega⟩)) (fun h8 => ?_)
  refine x_aload_n (pc := 11) (i := 0) dX7_lodge_11 rfl rfl ?_
  refine x_getR (pc := 12) hS fX7_28 dX7_lodge_12 rfl rfl ?_
  refine x_iload_n (pc := 15) (i := 2) dX7_lodge_15 rfl rfl ?_
  refine x_vs (pc := 16) (As := [_]) rfl hS lX7_100 dX7_lodge_16 rfl rfl (Nat.le_of_ble_eq_true rfl) (c_X0_hasBarrow_7 hS) ?_
  rintro _ _ ⟨rfl, hq⟩
  obtain rfl := hq.symm
  refine x_pushI ?_
  refine x_if_ne (pc := 19) (tgt := 24) dX7_lodge_19 (by decide) (fun h19 => ?_) (fun h19 => absurd h19 (by rw [b2_n0]; exact ⟨by (try simp only [b2_e0, b2_n0, Decidable.not_not] at *) <;> (try simp only [i_lt, i_le, i_eq, not_and, not_or, ne_eq, il_0, il_1, il_2, il_3, il_4, il_5, il_6, il_7, il_8, il_9, il_10, il_14, il_15, il_19, il_20, il_24, il_30, il_31, il_44, il_48, il_49, il_52, il_57, il_59, il_60, il_70, il_99, il_100, il_103, il_108, il_114, il_m1, il_m2, il_m3, il_m4, il_m9, il_m10, il_m100] at *) <;> omega, by (try simp only [b2_e0, b2_n0, Decidable.not_not] at *) <;> (try simp only [i_lt, i_le, i_eq, not_and, not_or, ne_eq, il_0, il_1, il_2, il_3, il_4, il_5, il_6, il_7, il_8, il_9, il_10, il_14, il_15, il_19, il_20, il_24, il_30, il_31, il_44, il_48, il_49, il_52, il_57, il_59, il_60, il_70, il_99, il_100, il_103, il_108, il_114, il_m1, il_m2, il_m3, il_m4, il_m9, il_m10, il_m100] at *) <;> omega⟩))
  refine x_aload_n (pc := 24) (i := 0) dX7_lodge_24 rfl rfl ?_
  refine x_getR (pc := 25) hS fX7_28 dX7_lodge_25 rfl rfl ?_
  refine x_iload_n (pc := 28) (i := 1) dX7_lodge_28 rfl rfl ?_
  refine x_iload_n (pc := 29) (i := 2) dX7_lodge_29 rfl rfl ?_
  refine x_vs (pc := 30) (As := [_, _]) rfl hS lX7_144 dX7_lodge_30 rfl rfl (Nat.le_of_ble_eq_true rfl) (c_X0_enter_7 hS tb hnb tw hnw) ?_
  rintro _ w1 ⟨rfl, hq⟩
  simp only [cv, cb] at hq
  refine x_pushI ?_
  refine x_if_ne (pc := 33) (tgt := 39) dX7_lodge_33 (by decide) (fun h33 => ?_) (fun h33 => ?_)
  · have hz := b2_n0.mp h33
    rw [if_pos hz] at hq
    subst hq
    have hS2 := hS.stA 15 (upd (arr w 15) v (nI b))
    have hS3 := hS2.stA 13 (upd (arr w 13) v (arr w 11 b))
    have hS := hS3
    refine x_aload_n (pc := 39) (i := 0) dX7_lodge_39 rfl rfl ?_
    refine x_getR (pc := 40) hS fX7_28 dX7_lodge_40 rfl rfl ?_
    refine x_iload_n (pc := 43) (i := 2) dX7_lodge_43 rfl rfl ?_
    refine x_vs (pc := 44) (As := [_]) rfl hS lX7_120 dX7_lodge_44 rfl rfl (Nat.le_of_ble_eq_true rfl) (c_X0_lodgersOf_7 hS (by rw [fld_setA, fld_setA]; exact tw) hnw) ?_
    rintro _ _ ⟨rfl, hq⟩
    obtain rfl := hq.symm
    refine x_pushI ?_
    refine x_ss (pc := 47) (As := [_]) rfl lX7_148 dX7_lodge_47 rfl (Nat.le_of_ble_eq_true rfl) (c_bitCount (bits32 hnw)) ?_
    rintro _ _ ⟨rfl, hq⟩
    obtain rfl := hq.symm
    refine x_pushI ?_
    refine x_ri (pc := 50) dX7_lodge_50 rfl rfl ?_
    rw [if_pos hz, if_pos hz, popc_bits _ hnw, arr_setA_a (by decide), arr_setA hS0 rfl]
    exact ⟨rfl, rfl⟩
  · refine x_bipush (pc := 36) (v := (-3)) dX7_lodge_36 (by decide) ?_
    refine x_ri (pc := 38) dX7_lodge_38 rfl rfl ?_
    have hz := b2_e0.mp h33
    rw [if_neg hz] at hq
    rw [if_neg hz, if_neg hz]
    exact ⟨rfl, hq⟩
theorem c_X8_lodge_no {d : Nat} {w : mW} {v b : Int32} (hS : Shape w) (h : ¬ ((0 ≤ v ∧ v < fld w 44 6) ∧ 0 ≤ b ∧ b < fld w 44 5)) : mC (d + 1) kX8_lodge [.ref 44, .int v, .int b] w (fun r w' => r = some (.int (-1)) ∧ w' = w) := by
  refine mC.of (L := [_, _, _]) okX8_lodge 0 rfl rfl ?_
  refine x_aload_n (pc := 0) (i := 0) dX8_lodge_0 rfl rfl ?_
  refine x_iload_n (pc := 1) (i := 1) dX8_lodge_1 rfl rfl ?_
  refine x_vs (pc := 2) (As := [_]) rfl hS lX8_161 dX8_lodge_2 rfl rfl (Nat.le_of_ble_eq_true rfl) (c_X8_isWalker hS) ?_
  rintro _ _ ⟨rfl, hq⟩
  obtain rfl := hq.symm
  refine x_pushI ?_
  refine x_if_eq (pc := 5) (tgt := 16) dX8_lodge_5 (by decide) (fun h5 => ?_) (fun h5 => ?_)
  · refine x_iconst (pc := 16) (v := (-1)) dX8_lodge_16 (by decide) ?_
    refine x_ri (pc := 17) dX8_lodge_17 rfl rfl ?_
    exact ⟨rfl, rfl⟩
  · refine x_aload_n (pc := 8) (i := 0) dX8_lodge_8 rfl rfl ?_
    refine x_iload_n (pc := 9) (i := 2) dX8_lodge_9 rfl rfl ?_
    refine x_vs (pc := 10) (As := [_]) rfl hS lX8_152 dX8_lodge_10 rfl rfl (Nat.le_of_ble_eq_true rfl) (c_X8_isBarrow hS) ?_
    rintro _ _ ⟨rfl, hq⟩
    obtain rfl := hq.symm
    refine x_pushI ?_
    refine x_if_ne (pc := 13) (tgt := 18) dX8_lodge_13 (by decide) (fun h13 => ?_) (fun h13 => ?_)
    · exfalso; (try simp only [b2_e0, b2_n0, Decidable.not_not] at *) <;> (try simp only [i_lt, i_le, i_eq, not_and, not_or, ne_eq, il_0, il_1, il_2, il_3, il_4, il_5, il_6, il_7, il_8, il_9, il_10, il_14, il_15, il_19, il_20, il_24, il_30, il_31, il_44, il_48, il_49, il_52, il_57, il_59, il_60, il_70, il_99, il_100, il_103, il_108, il_114, il_m1, il_m2, il_m3, il_m4, il_m9, il_m10, il_m100] at *) <;> omega
    · refine x_iconst (pc := 16) (v := (-1)) dX8_lodge_16 (by decide) ?_
      refine x_ri (pc := 17) dX8_lodge_17 rfl rfl ?_
      exact ⟨rfl, rfl⟩
theorem c_X8_lodge {d : Nat} {w : mW} {v b : Nat} {nb nw : Nat} (hS0 : Shape w) (tb : (fld w 44 5).toInt = (nb : Int)) (hnb : nb ≤ 5) (tw : (fld w 44 6).toInt = (nw : Int)) (hnw : nw ≤ 5) (hv : v < nw) (hb : b < nb) (hki : arr w 48 b = 0 ∨ arr w 48 b = 1 ∨ arr w 48 b = 2) (hpl : 0 ≤ (arr w 53 v).toInt ∧ (arr w 53 v).toInt ≤ 9) (hsi : 0 ≤ (arr w 51 b).toInt ∧ (arr w 51 b).toInt ≤ 9) (hlo : arr w 55 v = -9 ∨ inB (fld w 44 5) (arr w 55) v) : mC (d + 3) kX8_lodge [.ref 44, .int (nI v), .int (nI b)] w (fun r w' => r = some (.int (if canE (fld w 44 5) (fld w 44 6) nw (arr w 48) (arr w 49) (arr w 50) (arr w 51) (arr w 52) (arr w 53) (arr w 54) (arr w 55) (nI v) (nI b) then nI (cntN (lodgP (upd (arr w 55) v (nI b)) (nI b)) nw) else -3)) ∧ w' = if canE (fld w 44 5) (fld w 44 6) nw (arr w 48) (arr w 49) (arr w 50) (arr w 51) (arr w 52) (arr w 53) (arr w 54) (arr w 55) (nI v) (nI b) then setA (setA w 55 (upd (arr w 55) v (nI b))) 53 (upd (arr w 53) v (arr w 51 b)) else w) := by
  have tv : (nI v).toInt = (v : Int) := nI_toInt (by omega)
  have tbb : (nI b).toInt = (b : Int) := nI_toInt (by omega)
  have hS := hS0
  refine mC.of (L := [_, _, _]) okX8_lodge 0 rfl rfl ?_
  refine x_aload_n (pc := 0) (i := 0) dX8_lodge_0 rfl rfl ?_
  refine x_iload_n (pc := 1) (i := 1) dX8_lodge_1 rfl rfl ?_
  refine x_vs (pc := 2) (As := [_]) rfl hS lX8_161 dX8_lodge_2 rfl rfl (Nat.le_of_ble_eq_true rfl) (c_X8_isWalker hS) ?_
  rintro _ _ ⟨rfl, hq⟩
  obtain rfl := hq.symm
  refine x_pushI ?_
  refine x_if_eq (pc := 5) (tgt := 16) dX8_lodge_5 (by decide) (fun h5 => absurd h5 (by rw [b2_e0]; exact not_not_intro ⟨by (try simp only [b2_e0, b2_n0, Decidable.not_not] at *) <;> (try simp only [i_lt, i_le, i_eq, not_and, not_or, ne_eq, il_0, il_1, il_2, il_3, il_4, il_5, il_6, il_7, il_8, il_9, il_10, il_14, il_15, il_19, il_20, il_24, il_30, il_31, il_44, il_48, il_49, il_52, il_57, il_59, il_60, il_70, il_99, il_100, il_103, il_108, il_114, il_m1, il_m2, il_m3, il_m4, il_m9, il_m10, il_m100] at *) <;> omega, by (try simp only [b2_e0, b2_n0, Decidable.not_not] at *) <;> (try simp only [i_lt, i_le, i_eq, not_and, not_or, ne_eq, il_0, il_1, il_2, il_3, il_4, il_5, il_6, il_7, il_8, il_9, il_10, il_14, il_15, il_19, il_20, il_24, il_30, il_31, il_44, il_48, il_49, il_52, il_57, il_59, il_60, il_70, il_99, il_100, il_103, il_108, il_114, il_m1, il_m2, il_m3, il_m4, il_m9, il_m10, il_m100] at *) <;> omega⟩)) (fun h5 => ?_)
  refine x_aload_n (pc := 8) (i := 0) dX8_lodge_8 rfl rfl ?_
  refine x_iload_n (pc := 9) (i := 2) dX8_lodge_9 rfl rfl ?_
  refine x_vs (pc := 10) (As := [_]) rfl hS lX8_152 dX8_lodge_10 rfl rfl (Nat.le_of_ble_eq_true rfl) (c_X8_isBarrow hS) ?_
  rintro _ _ ⟨rfl, hq⟩
  obtain rfl := hq.symm
  refine x_pushI ?_
  refine x_if_ne (pc := 13) (tgt := 18) dX8_lodge_13 (by decide) (fun h13 => ?_) (fun h13 => absurd h13 (by rw [b2_n0]; exact ⟨by (try simp only [b2_e0, b2_n0, Decidable.not_not] at *) <;> (try simp only [i_lt, i_le, i_eq, not_and, not_or, ne_eq, il_0, il_1, il_2, il_3, il_4, il_5, il_6, il_7, il_8, il_9, il_10, il_14, il_15, il_19, il_20, il_24, il_30, il_31, il_44, il_48, il_49, il_52, il_57, il_59, il_60, il_70, il_99, il_100, il_103, il_108, il_114, il_m1, il_m2, il_m3, il_m4, il_m9, il_m10, il_m100] at *) <;> omega, by (try simp only [b2_e0, b2_n0, Decidable.not_not] at *) <;> (try simp only [i_lt, i_le, i_eq, not_and, not_or, ne_eq, il_0, il_1, il_2, il_3, il_4, il_5, il_6, il_7, il_8, il_9, il_10, il_14, il_15, il_19, il_20, il_24, il_30, il_31, il_44, il_48, il_49, il_52, il_57, il_59, il_60, il_70, il_99, il_100, il_103, il_108, il_114, il_m1, il_m2, il_m3, il_m4, il_m9, il_m10, il_m100] at *) <;> omega⟩))
  refine x_aload_n (pc := 18) (i := 0) dX8_lodge_18 rfl rfl ?_
  refine x_iload_n (pc := 19) (i := 1) dX8_lodge_19 rfl rfl ?_
  refine x_iload_n (pc := 20) (i := 2) dX8_lodge_20 rfl rfl ?_
  refine x_vs (pc := 21) (As := [_, _]) rfl hS lX8_177 dX8_lodge_21 rfl rfl (Nat.le_of_ble_eq_true rfl) (c_X8_doLodge hS tb hnb tw hnw hv hb hki hpl hsi hlo) ?_
  rintro _ w1 ⟨rfl, hq⟩
  refine x_pushI ?_
  refine x_if_eq (pc := 24) (tgt := 38) dX8_lodge_24 (by decide) (fun h24 => ?_) (fun h24 => ?_)
  · have hz := b2_e0.mp h24
    rw [if_neg hz] at hq
    subst hq
    rw [if_neg hz, if_neg hz]
    refine x_bipush (pc := 38) (v := (-3)) dX8_lodge_38 (by decide) ?_
    refine x_ri (pc := 40) dX8_lodge_40 rfl rfl ?_
    exact ⟨rfl, rfl⟩
  · have hz := b2_n0.mp h24
    rw [if_pos hz] at hq
    subst hq
    have hS2 := hS.stA 55 (upd (arr w 55) v (nI b))
    have hS3 := hS2.stA 53 (upd (arr w 53) v (arr w 51 b))
    have hS := hS3
    rw [if_pos hz, if_pos hz]
    refine x_aload_n (pc := 27) (i := 0) dX8_lodge_27 rfl rfl ?_
    refine x_iload_n (pc := 28) (i := 2) dX8_lodge_28 rfl rfl ?_
    refine x_vs (pc := 29) (As := [_]) rfl hS lX8_158 dX8_lodge_29 rfl rfl (Nat.le_of_ble_eq_true rfl) (c_X8_lodgersOf hS (by rw [fld_setA, fld_setA]; exact tw) hnw) ?_
    rintro _ _ ⟨rfl, hq⟩
    obtain rfl := hq.symm
    refine x_pushI ?_
    refine x_ss (pc := 32) (As := [_]) rfl lX8_174 dX8_lodge_32 rfl (Nat.le_of_ble_eq_true rfl) (c_X8_size (bits32 hnw)) ?_
    rintro _ _ ⟨rfl, hq⟩
    obtain rfl := hq.symm
    refine x_pushI ?_
    rw [popc_bits _ hnw, arr_setA_a (by decide), arr_setA hS0 rfl]
    refine x_goto (pc := 35) (tgt := 40) dX8_lodge_35 (by decide) ?_
    refine x_ri (pc := 40) dX8_lodge_40 rfl rfl ?_
    exact ⟨rfl, rfl⟩

