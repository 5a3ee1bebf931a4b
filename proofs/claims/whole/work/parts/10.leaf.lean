-- leaves
theorem c_X5_isSheet {d : Nat} {w : mW} {k : Int32} : mC d kX5_isSheet [.int k] w (fun r w' => r = some (.int (b2 (0 ≤ k ∧ k < 4))) ∧ w' = w) := by
  refine mC.of (L := [_]) okX5_isSheet 0 rfl rfl ?_
  refine x_iload_n (pc := 0) (i := 0) dX5_isSheet_0 rfl rfl ?_
  refine x_if_lt (pc := 1) (tgt := 13) dX5_isSheet_1 (by decide) (fun h1 => ?_) (fun h1 => ?_)
  · refine x_iconst (pc := 13) (v := 0) dX5_isSheet_13 (by decide) ?_
    refine x_ri (pc := 14) dX5_isSheet_14 rfl rfl ?_
    exact ⟨by unfold b2; split <;> first | rfl | (exfalso; (try simp only [b2_e0, b2_n0, Decidable.not_not] at *) <;> (try simp only [i_lt, i_le, i_eq, not_and, not_or, ne_eq, il_0, il_1, il_2, il_3, il_4, il_5, il_6, il_7, il_8, il_9, il_10, il_14, il_15, il_19, il_20, il_24, il_30, il_31, il_44, il_48, il_49, il_52, il_57, il_59, il_60, il_70, il_99, il_100, il_103, il_108, il_114, il_m1, il_m2, il_m3, il_m4, il_m9, il_m10, il_m100] at *) <;> omega), rfl⟩
  · refine x_iload_n (pc := 4) (i := 0) dX5_isSheet_4 rfl rfl ?_
    refine x_iconst (pc := 5) (v := 4) dX5_isSheet_5 (by decide) ?_
    refine x_icmp_ge (pc := 6) (tgt := 13) dX5_isSheet_6 (by decide) (fun h6 => ?_) (fun h6 => ?_)
    · refine x_iconst (pc := 13) (v := 0) dX5_isSheet_13 (by decide) ?_
      refine x_ri (pc := 14) dX5_isSheet_14 rfl rfl ?_
      exact ⟨by unfold b2; split <;> first | rfl | (exfalso; (try simp only [b2_e0, b2_n0, Decidable.not_not] at *) <;> (try simp only [i_lt, i_le, i_eq, not_and, not_or, ne_eq, il_0, il_1, il_2, il_3, il_4, il_5, il_6, il_7, il_8, il_9, il_10, il_14, il_15, il_19, il_20, il_24, il_30, il_31, il_44, il_48, il_49, il_52, il_57, il_59, il_60, il_70, il_99, il_100, il_103, il_108, il_114, il_m1, il_m2, il_m3, il_m4, il_m9, il_m10, il_m100] at *) <;> omega), rfl⟩
    · refine x_iconst (pc := 9) (v := 1) dX5_isSheet_9 (by decide) ?_
      refine x_goto (pc := 10) (tgt := 14) dX5_isSheet_10 (by decide) ?_
      refine x_ri (pc := 14) dX5_isSheet_14 rfl rfl ?_
      exact ⟨by unfold b2; split <;> first | rfl | (exfalso; (try simp only [b2_e0, b2_n0, Decidable.not_not] at *) <;> (try simp only [i_lt, i_le, i_eq, not_and, not_or, ne_eq, il_0, il_1, il_2, il_3, il_4, il_5, il_6, il_7, il_8, il_9, il_10, il_14, il_15, il_19, il_20, il_24, il_30, il_31, il_44, il_48, il_49, il_52, il_57, il_59, il_60, il_70, il_99, il_100, il_103, il_108, il_114, il_m1, il_m2, il_m3, il_m4, il_m9, il_m10, il_m100] at *) <;> omega), rfl⟩
theorem c_X7_isLane {d : Nat} {w : mW} {k : Int32} : mC d kX7_isLane [.int k] w (fun r w' => r = some (.int (b2 (0 ≤ k ∧ k ≤ 2))) ∧ w' = w) := by
  refine mC.of (L := [_]) okX7_isLane 0 rfl rfl ?_
  refine x_iload_n (pc := 0) (i := 0) dX7_isLane_0 rfl rfl ?_
  refine x_if_lt (pc := 1) (tgt := 13) dX7_isLane_1 (by decide) (fun h1 => ?_) (fun h1 => ?_)
  · refine x_iconst (pc := 13) (v := 0) dX7_isLane_13 (by decide) ?_
    refine x_ri (pc := 14) dX7_isLane_14 rfl rfl ?_
    exact ⟨by unfold b2; split <;> first | rfl | (exfalso; (try simp only [b2_e0, b2_n0, Decidable.not_not] at *) <;> (try simp only [i_lt, i_le, i_eq, not_and, not_or, ne_eq, il_0, il_1, il_2, il_3, il_4, il_5, il_6, il_7, il_8, il_9, il_10, il_14, il_15, il_19, il_20, il_24, il_30, il_31, il_44, il_48, il_49, il_52, il_57, il_59, il_60, il_70, il_99, il_100, il_103, il_108, il_114, il_m1, il_m2, il_m3, il_m4, il_m9, il_m10, il_m100] at *) <;> omega), rfl⟩
  · refine x_iload_n (pc := 4) (i := 0) dX7_isLane_4 rfl rfl ?_
    refine x_iconst (pc := 5) (v := 2) dX7_isLane_5 (by decide) ?_
    refine x_icmp_gt (pc := 6) (tgt := 13) dX7_isLane_6 (by decide) (fun h6 => ?_) (fun h6 => ?_)
    · refine x_iconst (pc := 13) (v := 0) dX7_isLane_13 (by decide) ?_
      refine x_ri (pc := 14) dX7_isLane_14 rfl rfl ?_
      exact ⟨by unfold b2; split <;> first | rfl | (exfalso; (try simp only [b2_e0, b2_n0, Decidable.not_not] at *) <;> (try simp only [i_lt, i_le, i_eq, not_and, not_or, ne_eq, il_0, il_1, il_2, il_3, il_4, il_5, il_6, il_7, il_8, il_9, il_10, il_14, il_15, il_19, il_20, il_24, il_30, il_31, il_44, il_48, il_49, il_52, il_57, il_59, il_60, il_70, il_99, il_100, il_103, il_108, il_114, il_m1, il_m2, il_m3, il_m4, il_m9, il_m10, il_m100] at *) <;> omega), rfl⟩
    · refine x_iconst (pc := 9) (v := 1) dX7_isLane_9 (by decide) ?_
      refine x_goto (pc := 10) (tgt := 14) dX7_isLane_10 (by decide) ?_
      refine x_ri (pc := 14) dX7_isLane_14 rfl rfl ?_
      exact ⟨by unfold b2; split <;> first | rfl | (exfalso; (try simp only [b2_e0, b2_n0, Decidable.not_not] at *) <;> (try simp only [i_lt, i_le, i_eq, not_and, not_or, ne_eq, il_0, il_1, il_2, il_3, il_4, il_5, il_6, il_7, il_8, il_9, il_10, il_14, il_15, il_19, il_20, il_24, il_30, il_31, il_44, il_48, il_49, il_52, il_57, il_59, il_60, il_70, il_99, il_100, il_103, il_108, il_114, il_m1, il_m2, il_m3, il_m4, il_m9, il_m10, il_m100] at *) <;> omega), rfl⟩
theorem c_X8_within {d : Nat} {w : mW} {v a b : Int32} : mC d kX8_within [.int v, .int a, .int b] w (fun r w' => r = some (.int (b2 (a ≤ v ∧ v ≤ b))) ∧ w' = w) := by
  refine mC.of (L := [_, _, _]) okX8_within 0 rfl rfl ?_
  refine x_iload_n (pc := 0) (i := 0) dX8_within_0 rfl rfl ?_
  refine x_iload_n (pc := 1) (i := 1) dX8_within_1 rfl rfl ?_
  refine x_icmp_lt (pc := 2) (tgt := 14) dX8_within_2 (by decide) (fun h2 => ?_) (fun h2 => ?_)
  · refine x_iconst (pc := 14) (v := 0) dX8_within_14 (by decide) ?_
    refine x_ri (pc := 15) dX8_within_15 rfl rfl ?_
    exact ⟨by unfold b2; split <;> first | rfl | (exfalso; (try simp only [b2_e0, b2_n0, Decidable.not_not] at *) <;> (try simp only [i_lt, i_le, i_eq, not_and, not_or, ne_eq, il_0, il_1, il_2, il_3, il_4, il_5, il_6, il_7, il_8, il_9, il_10, il_14, il_15, il_19, il_20, il_24, il_30, il_31, il_44, il_48, il_49, il_52, il_57, il_59, il_60, il_70, il_99, il_100, il_103, il_108, il_114, il_m1, il_m2, il_m3, il_m4, il_m9, il_m10, il_m100] at *) <;> omega), rfl⟩
  · refine x_iload_n (pc := 5) (i := 0) dX8_within_5 rfl rfl ?_
    refine x_iload_n (pc := 6) (i := 2) dX8_within_6 rfl rfl ?_
    refine x_icmp_gt (pc := 7) (tgt := 14) dX8_within_7 (by decide) (fun h7 => ?_) (fun h7 => ?_)
    · refine x_iconst (pc := 14) (v := 0) dX8_within_14 (by decide) ?_
      refine x_ri (pc := 15) dX8_within_15 rfl rfl ?_
      exact ⟨by unfold b2; split <;> first | rfl | (exfalso; (try simp only [b2_e0, b2_n0, Decidable.not_not] at *) <;> (try simp only [i_lt, i_le, i_eq, not_and, not_or, ne_eq, il_0, il_1, il_2, il_3, il_4, il_5, il_6, il_7, il_8, il_9, il_10, il_14, il_15, il_19, il_20, il_24, il_30, il_31, il_44, il_48, il_49, il_52, il_57, il_59, il_60, il_70, il_99, il_100, il_103, il_108, il_114, il_m1, il_m2, il_m3, il_m4, il_m9, il_m10, il_m100] at *) <;> omega), rfl⟩
    · refine x_iconst (pc := 10) (v := 1) dX8_within_10 (by decide) ?_
      refine x_goto (pc := 11) (tgt := 15) dX8_within_11 (by decide) ?_
      refine x_ri (pc := 15) dX8_within_15 rfl rfl ?_
      exact ⟨by unfold b2; split <;> first | rfl | (exfalso; (try simp only [b2_e0, b2_n0, Decidable.not_not] at *) <;> (try simp only [i_lt, i_le, i_eq, not_and, not_or, ne_eq, il_0, il_1, il_2, il_3, il_4, il_5, il_6, il_7, il_8, il_9, il_10, il_14, il_15, il_19, il_20, il_24, il_30, il_31, il_44, il_48, il_49, il_52, il_57, il_59, il_60, il_70, il_99, il_100, il_103, il_108, il_114, il_m1, il_m2, il_m3, il_m4, il_m9, il_m10, il_m100] at *) <;> omega), rfl⟩
theorem c_X8_isSheet {d : Nat} {w : mW} {k : Int32} : mC (d + 1) kX8_isSheet [.int k] w (fun r w' => r = some (.int (b2 (0 ≤ k ∧ k ≤ 3))) ∧ w' = w) := by
  refine mC.of (L := [_]) okX8_isSheet 0 rfl rfl ?_
  refine x_iload_n (pc := 0) (i := 0) dX8_isSheet_0 rfl rfl ?_
  refine x_iconst (pc := 1) (v := 0) dX8_isSheet_1 (by decide) ?_
  refine x_iconst (pc := 2) (v := 3) dX8_isSheet_2 (by decide) ?_
  refine x_ss (pc := 3) (As := [_, _, _]) rfl lX8_88 dX8_isSheet_3 rfl (by decide) c_X8_within ?_
  rintro _ _ ⟨rfl, hq⟩
  obtain rfl := hq.symm
  refine x_pushI ?_
  refine x_ri (pc := 6) dX8_isSheet_6 rfl (by unfold b2; split <;> rfl) ?_
  exact ⟨rfl, rfl⟩
theorem c_X5_hasNothing {d : Nat} {w : mW} {k : Int32} (hS : Shape w) : mC (d + 1) kX5_hasNothing [.ref 1, .int k] w (fun r w' => r = some (.int (b2 (¬ (0 ≤ k ∧ k < 4) ∨ arr w 2 k.toNatClampNeg = -1))) ∧ w' = w) := by
  refine mC.of (L := [_, _]) okX5_hasNothing 0 rfl rfl ?_
  refine x_iload_n (pc := 0) (i := 1) dX5_hasNothing_0 rfl rfl ?_
  refine x_ss (pc := 1) (As := [_]) rfl lX5_21 dX5_hasNothing_1 rfl (by decide) c_X5_isSheet ?_
  rintro _ _ ⟨rfl, hq⟩
  obtain rfl := hq.symm
  refine x_pushI ?_
  refine x_if_eq (pc := 4) (tgt := 17) dX5_hasNothing_4 (by decide) (fun h4 => ?_) (fun h4 => ?_)
  · refine x_iconst (pc := 17) (v := 1) dX5_hasNothing_17 (by decide) ?_
    refine x_goto (pc := 18) (tgt := 22) dX5_hasNothing_18 (by decide) ?_
    refine x_ri (pc := 22) dX5_hasNothing_22 rfl rfl ?_
    exact ⟨by unfold b2; split <;> first | rfl | (exfalso; (try simp only [b2_e0, b2_n0, Decidable.not_not] at *) <;> (try simp only [i_lt, i_le, i_eq, not_and, not_or, ne_eq, il_0, il_1, il_2, il_3, il_4, il_5, il_6, il_7, il_8, il_9, il_10, il_14, il_15, il_19, il_20, il_24, il_30, il_31, il_44, il_48, il_49, il_52, il_57, il_59, il_60, il_70, il_99, il_100, il_103, il_108, il_114, il_m1, il_m2, il_m3, il_m4, il_m9, il_m10, il_m100] at *) <;> omega), rfl⟩
  · refine x_aload_n (pc := 7) (i := 0) dX5_hasNothing_7 rfl rfl ?_
    refine x_getR (pc := 8) hS fX5_11 dX5_hasNothing_8 rfl rfl ?_
    refine x_iload_n (pc := 11) (i := 1) dX5_hasNothing_11 rfl rfl ?_
    refine x_ald (pc := 12) hS dX5_hasNothing_12 rfl (by rw [vp_in_iff]; (try simp only [b2_e0, b2_n0, Decidable.not_not] at *) <;> (try simp only [i_lt, i_le, i_eq, not_and, not_or, ne_eq, il_0, il_1, il_2, il_3, il_4, il_5, il_6, il_7, il_8, il_9, il_10, il_14, il_15, il_19, il_20, il_24, il_30, il_31, il_44, il_48, il_49, il_52, il_57, il_59, il_60, il_70, il_99, il_100, il_103, il_108, il_114, il_m1, il_m2, il_m3, il_m4, il_m9, il_m10, il_m100] at *) <;> omega) ?_
    refine x_iconst (pc := 13) (v := (-1)) dX5_hasNothing_13 (by decide) ?_
    refine x_icmp_ne (pc := 14) (tgt := 21) dX5_hasNothing_14 (by decide) (fun h14 => ?_) (fun h14 => ?_)
    · refine x_iconst (pc := 21) (v := 0) dX5_hasNothing_21 (by decide) ?_
      refine x_ri (pc := 22) dX5_hasNothing_22 rfl rfl ?_
      exact ⟨by unfold b2; split <;> first | rfl | (exfalso; (try simp only [b2_e0, b2_n0, Decidable.not_not] at *) <;> (try simp only [i_lt, i_le, i_eq, not_and, not_or, ne_eq, il_0, il_1, il_2, il_3, il_4, il_5, il_6, il_7, il_8, il_9, il_10, il_14, il_15, il_19, il_20, il_24, il_30, il_31, il_44, il_48, il_49, il_52, il_57, il_59, il_60, il_70, il_99, il_100, il_103, il_108, il_114, il_m1, il_m2, il_m3, il_m4, il_m9, il_m10, il_m100] at *) <;> omega), rfl⟩
    · refine x_iconst (pc := 17) (v := 1) dX5_hasNothing_17 (by decide) ?_
      refine x_goto (pc := 18) (tgt := 22) dX5_hasNothing_18 (by decide) ?_
      refine x_ri (pc := 22) dX5_hasNothing_22 rfl rfl ?_
      exact ⟨by unfold b2; split <;> first | rfl | (exfalso; (try simp only [b2_e0, b2_n0, Decidable.not_not] at *) <;> (try simp only [i_lt, i_le, i_eq, not_and, not_or, ne_eq, il_0, il_1, il_2, il_3, il_4, il_5, il_6, il_7, il_8, il_9, il_10, il_14, il_15, il_19, il_20, il_24, il_30, il_31, il_44, il_48, il_49, il_52, il_57, il_59, il_60, il_70, il_99, il_100, il_103, il_108, il_114, il_m1, il_m2, il_m3, il_m4, il_m9, il_m10, il_m100] at *) <;> omega), rfl⟩

