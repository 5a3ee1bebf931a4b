theorem both_lodge {w : mW} (hI : Inv w) (v b : Int32) : Both kX7_lodge kX8_lodge [.int v, .int b] w := by
  intro d
  obtain ⟨hS, nb, nw, nr, hD, hR, hSI, hT⟩ := id hI; obtain ⟨h1, h2, h3, tb, tw, hB, hW, ⟨e1, e2, e3⟩, f8, f9, f10, f11, f12, f13, f14, f15, f16⟩ := id hD
  by_cases hb : (0 ≤ v ∧ v < fld w 7 1) ∧ 0 ≤ b ∧ b < fld w 7 0
  · obtain ⟨i, hi, rfl⟩ := in_nI tw (by omega) hb.1
    obtain ⟨j, hj, rfl⟩ := in_nI tb (by omega) hb.2
    have hM : ∀ w1 : mW, Shape w1 → Gr [13, 15] [] w w1 → mC (d + 20) kX8_lodge [.ref 44, .int (nI i), .int (nI j)] w1 (fun r w' => r = some (.int (if canE (fld w 7 0) (fld w 7 1) nw (arr w 8) (arr w 9) (arr w 10) (arr w 11) (arr w 12) (arr w 13) (arr w 14) (arr w 15) (nI i) (nI j) then nI (cntN (lodgP (upd (arr w 15) i (nI j)) (nI j)) nw) else -3)) ∧ w' = if canE (fld w 7 0) (fld w 7 1) nw (arr w 8) (arr w 9) (arr w 10) (arr w 11) (arr w 12) (arr w 13) (arr w 14) (arr w 15) (nI i) (nI j) then setA (setA w1 55 (upd (arr w 15) i (nI j))) 53 (upd (arr w 13) i (arr w 11 j)) else w1) := by
      intro w1 hS1 g
      have k := c_X8_lodge (d := d + 17) (w := w1) (v := i) (b := j) hS1 (by rw [g.2 44 5 (by decide), e1]; exact tb) h1 (by rw [g.2 44 6 (by decide), e2]; exact tw) h2 hi hj (by rw [g.1 48 (by decide), f8]; exact (hB j hj).1) (by rw [g.1 53 (by decide), f13]; exact (hW i hi).2.1) (by rw [g.1 51 (by decide), f11]; exact (hB j hj).2.2.2) (by
        rw [g.1 55 (by decide), f15, g.2 44 5 (by decide), e1]
        rcases lo_or hW tb h1 hi with q | q
        · exact Or.inl q.1
        · exact Or.inr q.2)
      rw [g.1 48 (by decide), g.1 49 (by decide), g.1 50 (by decide), g.1 51 (by decide), g.1 52 (by decide), g.1 53 (by decide), g.1 54 (by decide), g.1 55 (by decide), g.2 44 5 (by decide), g.2 44 6 (by decide), f8, f9, f10, f11, f12, f13, f14, f15, e1, e2] at k
      exact k
    refine mC.mono (c_X7_lodge (d := d + 16) hS tb h1 tw h2 hi hj) ?_
    by_cases hc : canE (fld w 7 0) (fld w 7 1) nw (arr w 8) (arr w 9) (arr w 10) (arr w 11) (arr w 12) (arr w 13) (arr w 14) (arr w 15) (nI i) (nI j)
    · simp only [if_pos hc] at hM ⊢
      rintro _ w1 ⟨rfl, hq⟩
      have g1 : Gr [13, 15] [] w w1 := by rw [hq]; exact (Gr.rf.stA (by decide) _).stA (by decide) _
      have hS1 : Shape w1 := by rw [hq]; exact (hS.stA _ _).stA _ _
      have q15 : arr w1 15 = upd (arr w 15) i (nI j) := by rw [hq, arr_setA_a (by decide), arr_setA hS rfl]
      have q13 : arr w1 13 = upd (arr w 13) i (arr w 11 j) := by rw [hq, arr_setA (hS.stA _ _) rfl]
      refine mC.mono (hM w1 hS1 g1) ?_
      rintro _ w2 ⟨rfl, hq2⟩
      have g2 : Gr [53, 55] [] w1 w2 := by rw [hq2]; exact (Gr.rf.stA (by decide) _).stA (by decide) _
      have hS2 : Shape w2 := by rw [hq2]; exact (hS1.stA _ _).stA _ _
      have q55 : arr w2 55 = upd (arr w 15) i (nI j) := by rw [hq2, arr_setA_a (by decide), arr_setA hS1 rfl]
      have q53 : arr w2 53 = upd (arr w 13) i (arr w 11 j) := by rw [hq2, arr_setA (hS1.stA _ _) rfl]
      have g : Gr [13, 15, 53, 55] [] w w2 := (g1.up (by decide) (by decide)).tr (g2.up (by decide) (by decide))
      refine ⟨rfl, hS2, nb, nw, nr, hD.ch (g.up (by decide) (by decide)) ?_ ?_ ?_ ?_ ?_ ?_ ?_ ?_, hR.gr g (by decide) (by decide), hSI.gr g (by decide), hT.gr g (by decide)⟩
      · rw [g.1 50 (by decide), g.1 10 (by decide), f10]
      · rw [g.1 52 (by decide), g.1 12 (by decide), f12]
      · rw [q53, g2.1 13 (by decide), q13]
      · rw [q55, g2.1 15 (by decide), q15]
      · rw [g.1 56 (by decide), g.1 16 (by decide), f16]
      · rw [g.2 44 7 (by decide), g.2 7 2 (by decide), e3]
      · rw [g.1 10 (by decide)]; exact hB
      · rw [g.1 12 (by decide), g2.1 13 (by decide), q13, g2.1 15 (by decide), q15]
        exact (hW.pl (hB j hj).2.2.2).lo (Or.inr ⟨j, hj, rfl⟩)
    · simp only [if_neg hc] at hM ⊢
      rintro _ w1 ⟨rfl, hq⟩
      subst hq
      refine mC.mono (hM w1 hS Gr.rf) ?_
      rintro _ w2 ⟨rfl, hq⟩
      subst hq
      exact ⟨rfl, hI⟩
  · refine mC.mono (c_X7_lodge_no (d := d + 19) hS hb) ?_
    rintro _ _ ⟨rfl, hq⟩; obtain rfl := hq.symm
    refine mC.mono (c_X8_lodge_no (d := d + 19) hS (by rw [e1, e2]; exact hb)) ?_
    rintro _ _ ⟨rfl, hq⟩; obtain rfl := hq.symm
    exact ⟨rfl, hI⟩
-- night
theorem c_X7_night_out {d : Nat} {w : mW} {n : Int32} (hS : Shape w) (h : ¬ (1 ≤ n ∧ n ≤ 30)) : mC (d + 1) kX7_night [.ref 0, .int n] w (fun r w' => r = some (.int (-2)) ∧ w' = w) := by
  refine mC.of (L := [_, _]) okX7_night 0 rfl rfl ?_
  refine x_iload_n (pc := 0) (i := 1) dX7_night_0 rfl rfl ?_
  refine x_iconst (pc := 1) (v := 1) dX7_night_1 (by decide) ?_
  refine x_icmp_lt (pc := 2) (tgt := 11) dX7_night_2 (by decide) (fun h2 => ?_) (fun h2 => ?_)
  · refine x_bipush (pc := 11) (v := (-2)) dX7_night_11 (by decide) ?_
    refine x_ri (pc := 13) dX7_night_13 rfl rfl ?_
    exact ⟨rfl, rfl⟩
  · refine x_iload_n (pc := 5) (i := 1) dX7_night_5 rfl rfl ?_
    refine x_bipush (pc := 6) (v := 30) dX7_night_6 (by decide) ?_
    refine x_icmp_le (pc := 8) (tgt := 14) dX7_night_8 (by decide) (fun h8 => ?_) (fun h8 => ?_)
    · exfalso; (try simp only [b2_e0, b2_n0, Decidable.not_not] at *) <;> (try simp only [i_lt, i_le, i_eq, not_and, not_or, ne_eq, il_0, il_1, il_2, il_3, il_4, il_5, il_6, il_7, il_8, il_9, il_10, il_14, il_15, il_19, il_20, il_24, il_30, il_31, il_44, il_48, il_49, il_52, il_57, il_59, il_60, il_70, il_99, il_100, il_103, il_108, il_114, il_m1, il_m2, il_m3, il_m4, il_m9, il_m10, il_m100] at *) <;> omega
    · refine x_bipush (pc := 11) (v := (-2)) dX7_night_11 (by decide) ?_
      refine x_ri (pc := 13) dX7_night_13 rfl rfl ?_
      exact ⟨rfl, rfl⟩
theorem c_X7_night_no {d : Nat} {w : mW} {n : Int32} (hS : Shape w) (h : 1 ≤ n ∧ n ≤ 30) (h0 : ¬ 0 < fld w 7 0) : mC (d + 1) kX7_night [.ref 0, .int n] w (fun r w' => r = some (.int (-3)) ∧ w' = w) := by
  refine mC.of (L := [_, _]) okX7_night 0 rfl rfl ?_
  refine x_iload_n (pc := 0) (i := 1) dX7_night_0 rfl rfl ?_
  refine x_iconst (pc := 1) (v := 1) dX7_night_1 (by decide) ?_
  refine x_icmp_lt (pc := 2) (tgt := 11) dX7_night_2 (by decide) (fun h2 => absurd h2 (by (try simp only [b2_e0, b2_n0, Decidable.not_not] at *) <;> (try simp only [i_lt, i_le, i_eq, not_and, not_or, ne_eq, il_0, il_1, il_2, il_3, il_4, il_5, il_6, il_7, il_8, il_9, il_10, il_14, il_15, il_19, il_20, il_24, il_30, il_31, il_44, il_48, il_49, il_52, il_57, il_59, il_60, il_70, il_99, il_100, il_103, il_108, il_114, il_m1, il_m2, il_m3, il_m4, il_m9, il_m10, il_m100] at *) <;> omega)) (fun h2 => ?_)
  refine x_iload_n (pc := 5) (i := 1) dX7_night_5 rfl rfl ?_
  refine x_bipush (pc := 6) (v := 30) dX7_night_6 (by decide) ?_
  refine x_icmp_le (pc := 8) (tgt := 14) dX7_night_8 (by decide) (fun h8 => ?_) (fun h8 => absurd h8 (by (try simp only [b2_e0, b2_n0, Decidable.not_not] at *) <;> (try simp only [i_lt, i_le, i_eq, not_and, not_or, ne_eq, il_0, il_1, il_2, il_3, il_4, il_5, il_6, il_7, il_8, il_9, il_10, il_14, il_15, il_19, il_20, il_24, il_30, il_31, il_44, il_48, il_49, il_52, il_57, il_59, il_60, il_70, il_99, il_100, il_103, il_108, il_114, il_m1, il_m2, il_m3, il_m4, il_m9, il_m10, il_m100] at *) <;> omega))
  refine x_aload_n (pc := 14) (i := 0) dX7_night_14 rfl rfl ?_
  refine x_getR (pc := 15) hS fX7_28 dX7_night_15 rfl rfl ?_
  refine x_vs (pc := 18) (As := []) rfl hS lX7_156 dX7_night_18 rfl rfl (Nat.le_of_ble_eq_true rfl) (c_X0_isThere_7 hS) ?_
  rintro _ _ ⟨rfl, hq⟩
  obtain rfl := hq.symm
  refine x_pushI ?_
  refine x_if_ne (pc := 21) (tgt := 27) dX7_night_21 (by decide) (fun h21 => absurd h21 (by rw [b2_n0]; (try simp only [b2_e0, b2_n0, Decidable.not_not] at *) <;> (try simp only [i_lt, i_le, i_eq, not_and, not_or, ne_eq, il_0, il_1, il_2, il_3, il_4, il_5, il_6, il_7, il_8, il_9, il_10, il_14, il_15, il_19, il_20, il_24, il_30, il_31, il_44, il_48, il_49, il_52, il_57, il_59, il_60, il_70, il_99, il_100, il_103, il_108, il_114, il_m1, il_m2, il_m3, il_m4, il_m9, il_m10, il_m100] at *) <;> omega)) (fun h21 => ?_)
  refine x_bipush (pc := 24) (v := (-3)) dX7_night_24 (by decide) ?_
  refine x_ri (pc := 26) dX7_night_26 rfl rfl ?_
  exact ⟨rfl, rfl⟩
theorem c_X7_night {d : Nat} {w : mW} {N nb nw : Nat} (hS : Shape w) (tb : (fld w 7 0).toInt = (nb : Int)) (hnb : nb ≤ 5) (tw : (fld w 7 1).toInt = (nw : Int)) (hnw : nw ≤ 5) (h0 : 0 < fld w 7 0) (hN1 : 1 ≤ N) (hN : N ≤ 30) : mC (d + 3) kX7_night [.ref 0, .int (nI N)] w (fun r w' => r = some (.int (nI (nOut (fld w 7 0) (arr w 10) nw N (arr w 12, arr w 15, arr w 16)))) ∧ NsAt (fld w 7 0) nw 7 10 12 15 16 w N w' ∧ fld w' 7 0 = fld w 7 0 ∧ fld w' 7 1 = fld w 7 1 ∧ fld w' 7 2 = fld w 7 2 + nI N) := by
  have tN : (nI N).toInt = (N : Int) := nI_toInt (by omega)
  refine mC.of (L := [_, _]) okX7_night 0 rfl rfl ?_
  refine x_iload_n (pc := 0) (i := 1) dX7_night_0 rfl rfl ?_
  refine x_iconst (pc := 1) (v := 1) dX7_night_1 (by decide) ?_
  refine x_icmp_lt (pc := 2) (tgt := 11) dX7_night_2 (by decide) (fun h2 => absurd h2 (by (try simp only [b2_e0, b2_n0, Decidable.not_not] at *) <;> (try simp only [i_lt, i_le, i_eq, not_and, not_or, ne_eq, il_0, il_1, il_2, il_3, il_4, il_5, il_6, il_7, il_8, il_9, il_10, il_14, il_15, il_19, il_20, il_24, il_30, il_31, il_44, il_48, il_49, il_52, il_57, il_59, il_60, il_70, il_99, il_100, il_103, il_108, il_114, il_m1, il_m2, il_m3, il_m4, il_m9, il_m10, il_m100] at *) <;> omega)) (fun h2 => ?_)
  refine x_iload_n (pc := 5) (i := 1) dX7_night_5 rfl rfl ?_
  refine x_bipush (pc := 6) (v := 30) dX7_night_6 (by decide) ?_
  refine x_icmp_le (pc := 8) (tgt := 14) dX7_night_8 (by decide) (fun h8 => ?_) (fun h8 => absurd h8 (by (try simp only [b2_e0, b2_n0, Decidable.not_not] at *) <;> (try simp only [i_lt, i_le, i_eq, not_and, not_or, ne_eq, il_0, il_1, il_2, il_3, il_4, il_5, il_6, il_7, il_8, il_9, il_10, il_14, il_15, il_19, il_20, il_24, il_30, il_31, il_44, il_48, il_49, il_52, il_57, il_59, il_60, il_70, il_99, il_100, il_103, il_108, il_114, il_m1, il_m2, il_m3, il_m4, il_m9, il_m10, il_m100] at *) <;> omega))
  refine x_aload_n (pc := 14) (i := 0) dX7_night_14 rfl rfl ?_
  refine x_getR (pc := 15) hS fX7_28 dX7_night_15 rfl rfl ?_
  refine x_vs (pc := 18) (As := []) rfl hS lX7_156 dX7_night_18 rfl rfl (Nat.le_of_ble_eq_true rfl) (c_X0_isThere_7 hS) ?_
  rintro _ _ ⟨rfl, hq⟩
  obtain rfl := hq.symm
  refine x_pushI ?_
  refine x_if_ne (pc := 21) (tgt := 27) dX7_night_21 (by decide) (fun h21 => ?_) (fun h21 => absurd h21 (by rw [b2_n0]; (try simp only [b2_e0, b2_n0, Decidable.not_not] at *) <;> (try simp only [i_lt, i_le, i_eq, not_and, not_or, ne_eq, il_0, il_1, il_2, il_3, il_4, il_5, il_6, il_7, il_8, il_9, il_10, il_14, il_15, il_19, il_20, il_24, il_30, il_31, il_44, il_48, il_49, il_52, il_57, il_59, il_60, il_70, il_99, il_100, il_103, il_108, il_114, il_m1, il_m2, il_m3, il_m4, il_m9, il_m10, il_m100] at *) <;> omega))
  refine x_aload_n (pc := 27) (i := 0) dX7_night_27 rfl rfl ?_
  refine x_getR (pc := 28) hS fX7_28 dX7_night_28 rfl rfl ?_
  refine x_iload_n (pc := 31) (i := 1) dX7_night_31 rfl rfl ?_
  refine x_vs (pc := 32) (As := [_]) rfl hS lX7_160 dX7_night_32 rfl rfl (Nat.le_of_ble_eq_true rfl) (c_X0_passNights_7 hS tb hnb tw hnw hN) ?_
  rintro _ w1 ⟨rfl, hq⟩
  refine x_pushI ?_
  refine x_ri (pc := 35) dX7_night_35 rfl rfl ?_
  exact ⟨rfl, hq⟩

