-- leaves, 2
def holdsE (k b : Int32) : Int32 := if k = 1 then 2 * b else if k = 2 then b + 1 else b
theorem c_X7_holdsAs {d : Nat} {w : mW} {k b : Int32} : mC d kX7_holdsAs [.int k, .int b] w (fun r w' => r = some (.int (holdsE k b)) ∧ w' = w) := by
  refine mC.of (L := [_, _]) okX7_holdsAs 0 rfl rfl ?_
  refine x_iload_n (pc := 0) (i := 0) dX7_holdsAs_0 rfl rfl ?_
  by_cases h1_1 : k = 1
  · rw [h1_1]
    refine x_lookup (pc := 1) (tgt := 32) dX7_holdsAs_1 (by decide) rfl (by decide) ?_
    refine x_iconst (pc := 32) (v := 2) dX7_holdsAs_32 (by decide) ?_
    refine x_iload_n (pc := 33) (i := 1) dX7_holdsAs_33 rfl rfl ?_
    refine x_imul (pc := 34) dX7_holdsAs_34 ?_
    refine x_ri (pc := 35) dX7_holdsAs_35 rfl rfl ?_
    exact ⟨by simp_all [holdsE], rfl⟩
  by_cases h1_2 : k = 2
  · rw [h1_2]
    refine x_lookup (pc := 1) (tgt := 28) dX7_holdsAs_1 (by decide) rfl (by decide) ?_
    refine x_iload_n (pc := 28) (i := 1) dX7_holdsAs_28 rfl rfl ?_
    refine x_iconst (pc := 29) (v := 1) dX7_holdsAs_29 (by decide) ?_
    refine x_iadd (pc := 30) dX7_holdsAs_30 ?_
    refine x_ri (pc := 31) dX7_holdsAs_31 rfl rfl ?_
    exact ⟨by simp_all [holdsE], rfl⟩
  refine x_lookup (pc := 1) (tgt := 36) (off := 35) dX7_holdsAs_1 (by decide) (by rw [lv_osw h1_1 (by decide), lv_osw h1_2 (by decide)]; rfl) (by decide) ?_
  refine x_iload_n (pc := 36) (i := 1) dX7_holdsAs_36 rfl rfl ?_
  refine x_ri (pc := 37) dX7_holdsAs_37 rfl rfl ?_
  exact ⟨by simp_all [holdsE], rfl⟩
theorem c_X8_holdsBy {d : Nat} {w : mW} {k b : Int32} (hk : k = 0 ∨ k = 1 ∨ k = 2) : mC d kX8_holdsBy [.int k, .int b] w (fun r w' => r = some (.int (holdsE k b)) ∧ w' = w) := by
  refine mC.of (L := [_, _]) okX8_holdsBy 0 rfl rfl ?_
  refine x_iload_n (pc := 0) (i := 0) dX8_holdsBy_0 rfl rfl ?_
  refine x_if_ne (pc := 1) (tgt := 8) dX8_holdsBy_1 (by decide) (fun h1 => ?_) (fun h1 => ?_)
  · refine x_iload_n (pc := 8) (i := 0) dX8_holdsBy_8 rfl rfl ?_
    refine x_iconst (pc := 9) (v := 1) dX8_holdsBy_9 (by decide) ?_
    refine x_icmp_ne (pc := 10) (tgt := 19) dX8_holdsBy_10 (by decide) (fun h10 => ?_) (fun h10 => ?_)
    · refine x_iload_n (pc := 19) (i := 1) dX8_holdsBy_19 rfl rfl ?_
      refine x_iconst (pc := 20) (v := 1) dX8_holdsBy_20 (by decide) ?_
      refine x_iadd (pc := 21) dX8_holdsBy_21 ?_
      refine x_ri (pc := 22) dX8_holdsBy_22 rfl rfl ?_
      exact ⟨by first | (simp_all [holdsE]; done) | (rcases hk with h | h | h <;> simp_all [holdsE]), rfl⟩
    · refine x_iconst (pc := 13) (v := 2) dX8_holdsBy_13 (by decide) ?_
      refine x_iload_n (pc := 14) (i := 1) dX8_holdsBy_14 rfl rfl ?_
      refine x_imul (pc := 15) dX8_holdsBy_15 ?_
      refine x_goto (pc := 16) (tgt := 22) dX8_holdsBy_16 (by decide) ?_
      refine x_ri (pc := 22) dX8_holdsBy_22 rfl rfl ?_
      exact ⟨by first | (simp_all [holdsE]; done) | (rcases hk with h | h | h <;> simp_all [holdsE]), rfl⟩
  · refine x_iload_n (pc := 4) (i := 1) dX8_holdsBy_4 rfl rfl ?_
    refine x_goto (pc := 5) (tgt := 22) dX8_holdsBy_5 (by decide) ?_
    refine x_ri (pc := 22) dX8_holdsBy_22 rfl rfl ?_
    exact ⟨by first | (simp_all [holdsE]; done) | (rcases hk with h | h | h <;> simp_all [holdsE]), rfl⟩
def farE (a b : Int32) : Int32 := if 0 ≤ a - b then a - b else 0 - (a - b)
theorem c_X7_isNear {d : Nat} {w : mW} {a b r0 : Int32} : mC (d + 1) kX7_isNear [.int a, .int b, .int r0] w (fun r w' => r = some (.int (b2 (farE a b ≤ r0))) ∧ w' = w) := by
  refine mC.of (L := [_, _, _]) okX7_isNear 0 rfl rfl ?_
  refine x_iload_n (pc := 0) (i := 0) dX7_isNear_0 rfl rfl ?_
  refine x_iload_n (pc := 1) (i := 1) dX7_isNear_1 rfl rfl ?_
  refine x_isub (pc := 2) dX7_isNear_2 ?_
  refine x_mabs (pc := 3) lX7_282 dX7_isNear_3 (by decide) ?_
  show mJ mX0 _ _ _ _ _ (.int (farE a b) :: _) _
  refine x_iload_n (pc := 6) (i := 2) dX7_isNear_6 rfl rfl ?_
  refine x_icmp_gt (pc := 7) (tgt := 14) dX7_isNear_7 (by decide) (fun h7 => ?_) (fun h7 => ?_)
  · refine x_iconst (pc := 14) (v := 0) dX7_isNear_14 (by decide) ?_
    refine x_ri (pc := 15) dX7_isNear_15 rfl rfl ?_
    exact ⟨by unfold b2; split <;> first | rfl | contradiction | (exfalso; (try simp only [b2_e0, b2_n0, Decidable.not_not] at *) <;> (try simp only [i_lt, i_le, i_eq, not_and, not_or, ne_eq, il_0, il_1, il_2, il_3, il_4, il_5, il_6, il_7, il_8, il_9, il_10, il_14, il_15, il_19, il_20, il_24, il_30, il_31, il_44, il_48, il_49, il_52, il_57, il_59, il_60, il_70, il_99, il_100, il_103, il_108, il_114, il_m1, il_m2, il_m3, il_m4, il_m9, il_m10, il_m100] at *) <;> omega), rfl⟩
  · refine x_iconst (pc := 10) (v := 1) dX7_isNear_10 (by decide) ?_
    refine x_goto (pc := 11) (tgt := 15) dX7_isNear_11 (by decide) ?_
    refine x_ri (pc := 15) dX7_isNear_15 rfl rfl ?_
    exact ⟨by unfold b2; split <;> first | rfl | contradiction | (exfalso; (try simp only [b2_e0, b2_n0, Decidable.not_not] at *) <;> (try simp only [i_lt, i_le, i_eq, not_and, not_or, ne_eq, il_0, il_1, il_2, il_3, il_4, il_5, il_6, il_7, il_8, il_9, il_10, il_14, il_15, il_19, il_20, il_24, il_30, il_31, il_44, il_48, il_49, il_52, il_57, il_59, il_60, il_70, il_99, il_100, il_103, il_108, il_114, il_m1, il_m2, il_m3, il_m4, il_m9, il_m10, il_m100] at *) <;> omega), rfl⟩
theorem c_X8_apart {d : Nat} {w : mW} {a b : Int32} : mC d kX8_apart [.int a, .int b] w (fun r w' => r = some (.int (if a < b then b - a else a - b)) ∧ w' = w) := by
  refine mC.of (L := [_, _]) okX8_apart 0 rfl rfl ?_
  refine x_iload_n (pc := 0) (i := 0) dX8_apart_0 rfl rfl ?_
  refine x_iload_n (pc := 1) (i := 1) dX8_apart_1 rfl rfl ?_
  refine x_icmp_ge (pc := 2) (tgt := 11) dX8_apart_2 (by decide) (fun h2 => ?_) (fun h2 => ?_)
  · refine x_iload_n (pc := 11) (i := 0) dX8_apart_11 rfl rfl ?_
    refine x_iload_n (pc := 12) (i := 1) dX8_apart_12 rfl rfl ?_
    refine x_isub (pc := 13) dX8_apart_13 ?_
    refine x_ri (pc := 14) dX8_apart_14 rfl rfl ?_
    exact ⟨by split <;> first | rfl | contradiction | (exfalso; (try simp only [b2_e0, b2_n0, Decidable.not_not] at *) <;> (try simp only [i_lt, i_le, i_eq, not_and, not_or, ne_eq, il_0, il_1, il_2, il_3, il_4, il_5, il_6, il_7, il_8, il_9, il_10, il_14, il_15, il_19, il_20, il_24, il_30, il_31, il_44, il_48, il_49, il_52, il_57, il_59, il_60, il_70, il_99, il_100, il_103, il_108, il_114, il_m1, il_m2, il_m3, il_m4, il_m9, il_m10, il_m100] at *) <;> omega), rfl⟩
  · refine x_iload_n (pc := 5) (i := 1) dX8_apart_5 rfl rfl ?_
    refine x_iload_n (pc := 6) (i := 0) dX8_apart_6 rfl rfl ?_
    refine x_isub (pc := 7) dX8_apart_7 ?_
    refine x_goto (pc := 8) (tgt := 14) dX8_apart_8 (by decide) ?_
    refine x_ri (pc := 14) dX8_apart_14 rfl rfl ?_
    exact ⟨by split <;> first | rfl | contradiction | (exfalso; (try simp only [b2_e0, b2_n0, Decidable.not_not] at *) <;> (try simp only [i_lt, i_le, i_eq, not_and, not_or, ne_eq, il_0, il_1, il_2, il_3, il_4, il_5, il_6, il_7, il_8, il_9, il_10, il_14, il_15, il_19, il_20, il_24, il_30, il_31, il_44, il_48, il_49, il_52, il_57, il_59, il_60, il_70, il_99, il_100, il_103, il_108, il_114, il_m1, il_m2, il_m3, il_m4, il_m9, il_m10, il_m100] at *) <;> omega), rfl⟩
theorem c_X8_isSort {d : Nat} {w : mW} {k : Int32} : mC (d + 1) kX8_isSort [.int k] w (fun r w' => r = some (.int (b2 (0 ≤ k ∧ k ≤ 2))) ∧ w' = w) := by
  refine mC.of (L := [_]) okX8_isSort 0 rfl rfl ?_
  refine x_iload_n (pc := 0) (i := 0) dX8_isSort_0 rfl rfl ?_
  refine x_iconst (pc := 1) (v := 0) dX8_isSort_1 (by decide) ?_
  refine x_iconst (pc := 2) (v := 2) dX8_isSort_2 (by decide) ?_
  refine x_ss (pc := 3) (As := [_, _, _]) rfl lX8_88 dX8_isSort_3 rfl (by decide) c_X8_within ?_
  rintro _ _ ⟨rfl, hq⟩
  obtain rfl := hq.symm
  refine x_pushI ?_
  refine x_ri (pc := 6) dX8_isSort_6 rfl (by unfold b2; split <;> rfl) ?_
  exact ⟨rfl, rfl⟩
theorem c_X8_isBarrow {d : Nat} {w : mW} {b : Int32} (hS : Shape w) : mC d kX8_isBarrow [.ref 44, .int b] w (fun r w' => r = some (.int (b2 (0 ≤ b ∧ b < fld w 44 5))) ∧ w' = w) := by
  refine mC.of (L := [_, _]) okX8_isBarrow 0 rfl rfl ?_
  refine x_iload_n (pc := 0) (i := 1) dX8_isBarrow_0 rfl rfl ?_
  refine x_if_lt (pc := 1) (tgt := 16) dX8_isBarrow_1 (by decide) (fun h1 => ?_) (fun h1 => ?_)
  · refine x_iconst (pc := 16) (v := 0) dX8_isBarrow_16 (by decide) ?_
    refine x_ri (pc := 17) dX8_isBarrow_17 rfl rfl ?_
    exact ⟨by unfold b2; split <;> first | rfl | contradiction | (exfalso; (try simp only [b2_e0, b2_n0, Decidable.not_not] at *) <;> (try simp only [i_lt, i_le, i_eq, not_and, not_or, ne_eq, il_0, il_1, il_2, il_3, il_4, il_5, il_6, il_7, il_8, il_9, il_10, il_14, il_15, il_19, il_20, il_24, il_30, il_31, il_44, il_48, il_49, il_52, il_57, il_59, il_60, il_70, il_99, il_100, il_103, il_108, il_114, il_m1, il_m2, il_m3, il_m4, il_m9, il_m10, il_m100] at *) <;> omega), rfl⟩
  · refine x_iload_n (pc := 4) (i := 1) dX8_isBarrow_4 rfl rfl ?_
    refine x_aload_n (pc := 5) (i := 0) dX8_isBarrow_5 rfl rfl ?_
    refine x_getI (pc := 6) hS fX8_92 dX8_isBarrow_6 rfl rfl ?_
    refine x_icmp_ge (pc := 9) (tgt := 16) dX8_isBarrow_9 (by decide) (fun h9 => ?_) (fun h9 => ?_)
    · refine x_iconst (pc := 16) (v := 0) dX8_isBarrow_16 (by decide) ?_
      refine x_ri (pc := 17) dX8_isBarrow_17 rfl rfl ?_
      exact ⟨by unfold b2; split <;> first | rfl | contradiction | (exfalso; (try simp only [b2_e0, b2_n0, Decidable.not_not] at *) <;> (try simp only [i_lt, i_le, i_eq, not_and, not_or, ne_eq, il_0, il_1, il_2, il_3, il_4, il_5, il_6, il_7, il_8, il_9, il_10, il_14, il_15, il_19, il_20, il_24, il_30, il_31, il_44, il_48, il_49, il_52, il_57, il_59, il_60, il_70, il_99, il_100, il_103, il_108, il_114, il_m1, il_m2, il_m3, il_m4, il_m9, il_m10, il_m100] at *) <;> omega), rfl⟩
    · refine x_iconst (pc := 12) (v := 1) dX8_isBarrow_12 (by decide) ?_
      refine x_goto (pc := 13) (tgt := 17) dX8_isBarrow_13 (by decide) ?_
      refine x_ri (pc := 17) dX8_isBarrow_17 rfl rfl ?_
      exact ⟨by unfold b2; split <;> first | rfl | contradiction | (exfalso; (try simp only [b2_e0, b2_n0, Decidable.not_not] at *) <;> (try simp only [i_lt, i_le, i_eq, not_and, not_or, ne_eq, il_0, il_1, il_2, il_3, il_4, il_5, il_6, il_7, il_8, il_9, il_10, il_14, il_15, il_19, il_20, il_24, il_30, il_31, il_44, il_48, il_49, il_52, il_57, il_59, il_60, il_70, il_99, il_100, il_103, il_108, il_114, il_m1, il_m2, il_m3, il_m4, il_m9, il_m10, il_m100] at *) <;> omega), rfl⟩
theorem c_X8_isWalker {d : Nat} {w : mW} {b : Int32} (hS : Shape w) : mC d kX8_isWalker [.ref 44, .int b] w (fun r w' => r = some (.int (b2 (0 ≤ b ∧ b < fld w 44 6))) ∧ w' = w) := by
  refine mC.of (L := [_, _]) okX8_isWalker 0 rfl rfl ?_
  refine x_iload_n (pc := 0) (i := 1) dX8_isWalker_0 rfl rfl ?_
  refine x_if_lt (pc := 1) (tgt := 16) dX8_isWalker_1 (by decide) (fun h1 => ?_) (fun h1 => ?_)
  · refine x_iconst (pc := 16) (v := 0) dX8_isWalker_16 (by decide) ?_
    refine x_ri (pc := 17) dX8_isWalker_17 rfl rfl ?_
    exact ⟨by unfold b2; split <;> first | rfl | contradiction | (exfalso; (try simp only [b2_e0, b2_n0, Decidable.not_not] at *) <;> (try simp only [i_lt, i_le, i_eq, not_and, not_or, ne_eq, il_0, il_1, il_2, il_3, il_4, il_5, il_6, il_7, il_8, il_9, il_10, il_14, il_15, il_19, il_20, il_24, il_30, il_31, il_44, il_48, il_49, il_52, il_57, il_59, il_60, il_70, il_99, il_100, il_103, il_108, il_114, il_m1, il_m2, il_m3, il_m4, il_m9, il_m10, il_m100] at *) <;> omega), rfl⟩
  · refine x_iload_n (pc := 4) (i := 1) dX8_isWalker_4 rfl rfl ?_
    refine x_aload_n (pc := 5) (i := 0) dX8_isWalker_5 rfl rfl ?_
    refine x_getI (pc := 6) hS fX8_95 dX8_isWalker_6 rfl rfl ?_
    refine x_icmp_ge (pc := 9) (tgt := 16) dX8_isWalker_9 (by decide) (fun h9 => ?_) (fun h9 => ?_)
    · refine x_iconst (pc := 16) (v := 0) dX8_isWalker_16 (by decide) ?_
      refine x_ri (pc := 17) dX8_isWalker_17 rfl rfl ?_
      exact ⟨by unfold b2; split <;> first | rfl | contradiction | (exfalso; (try simp only [b2_e0, b2_n0, Decidable.not_not] at *) <;> (try simp only [i_lt, i_le, i_eq, not_and, not_or, ne_eq, il_0, il_1, il_2, il_3, il_4, il_5, il_6, il_7, il_8, il_9, il_10, il_14, il_15, il_19, il_20, il_24, il_30, il_31, il_44, il_48, il_49, il_52, il_57, il_59, il_60, il_70, il_99, il_100, il_103, il_108, il_114, il_m1, il_m2, il_m3, il_m4, il_m9, il_m10, il_m100] at *) <;> omega), rfl⟩
    · refine x_iconst (pc := 12) (v := 1) dX8_isWalker_12 (by decide) ?_
      refine x_goto (pc := 13) (tgt := 17) dX8_isWalker_13 (by decide) ?_
      refine x_ri (pc := 17) dX8_isWalker_17 rfl rfl ?_
      exact ⟨by unfold b2; split <;> first | rfl | contradiction | (exfalso; (try simp only [b2_e0, b2_n0, Decidable.not_not] at *) <;> (try simp only [i_lt, i_le, i_eq, not_and, not_or, ne_eq, il_0, il_1, il_2, il_3, il_4, il_5, il_6, il_7, il_8, il_9, il_10, il_14, il_15, il_19, il_20, il_24, il_30, il_31, il_44, il_48, il_49, il_52, il_57, il_59, il_60, il_70, il_99, il_100, il_103, il_108, il_114, il_m1, il_m2, il_m3, il_m4, il_m9, il_m10, il_m100] at *) <;> omega), rfl⟩
theorem c_X8_fails {d : Nat} {w : mW} {k : Int32} (hS : Shape w) : mC d kX8_fails [.ref 44, .int k] w (fun r w' => r = some (.int (-10 - k)) ∧ w' = setF w 44 0 k) := by
  refine mC.of (L := [_, _]) okX8_fails 0 rfl rfl ?_
  refine x_aload_n (pc := 0) (i := 0) dX8_fails_0 rfl rfl ?_
  refine x_iload_n (pc := 1) (i := 1) dX8_fails_1 rfl rfl ?_
  refine x_putI (pc := 2) hS fX8_82 dX8_fails_2 rfl rfl rfl rfl (fun hS => ?_)
  refine x_bipush (pc := 5) (v := (-10)) dX8_fails_5 (by decide) ?_
  refine x_iload_n (pc := 7) (i := 1) dX8_fails_7 rfl rfl ?_
  refine x_isub (pc := 8) dX8_fails_8 ?_
  refine x_ri (pc := 9) dX8_fails_9 rfl rfl ?_
  exact ⟨rfl, rfl⟩
theorem c_X8_lost {d : Nat} {w : mW} {k : Int32} (hS : Shape w) : mC d kX8_lost [.ref 44, .int k] w (fun r w' => r = some (.long (-9223372036854775808)) ∧ w' = setF w 44 0 k) := by
  refine mC.of (L := [_, _]) okX8_lost 0 rfl rfl ?_
  refine x_aload_n (pc := 0) (i := 0) dX8_lost_0 rfl rfl ?_
  refine x_iload_n (pc := 1) (i := 1) dX8_lost_1 rfl rfl ?_
  refine x_putI (pc := 2) hS fX8_82 dX8_lost_2 rfl rfl rfl rfl (fun hS => ?_)
  refine x_ldc2 (pc := 5) dX8_lost_5 qX8_86 ?_
  refine x_rl (pc := 8) dX8_lost_8 rfl ?_
  exact ⟨rfl, rfl⟩
theorem c_X8_begins {d : Nat} {w : mW} {k : Int32} (hS : Shape w) : mC d kX8_begins [.ref 44, .int k] w (fun r w' => r = none ∧ w' = setF w 44 1 (31 * fld w 44 1 + k)) := by
  refine mC.of (L := [_, _]) okX8_begins 0 rfl rfl ?_
  refine x_aload_n (pc := 0) (i := 0) dX8_begins_0 rfl rfl ?_
  refine x_bipush (pc := 1) (v := 31) dX8_begins_1 (by decide) ?_
  refine x_aload_n (pc := 3) (i := 0) dX8_begins_3 rfl rfl ?_
  refine x_getI (pc := 4) hS fX8_249 dX8_begins_4 rfl rfl ?_
  refine x_imul (pc := 7) dX8_begins_7 ?_
  refine x_iload_n (pc := 8) (i := 1) dX8_begins_8 rfl rfl ?_
  refine x_iadd (pc := 9) dX8_begins_9 ?_
  refine x_putI (pc := 10) hS fX8_249 dX8_begins_10 rfl rfl rfl rfl (fun hS => ?_)
  refine x_rv (pc := 13) dX8_begins_13 rfl ?_
  exact ⟨rfl, rfl⟩
theorem c_X7_begin {d : Nat} {w : mW} {k : Int32} (hS : Shape w) : mC d kX7_begin [.ref 0, .int k] w (fun r w' => r = none ∧ w' = setF w 0 7 (31 * fld w 0 7 + k)) := by
  refine mC.of (L := [_, _]) okX7_begin 0 rfl rfl ?_
  refine x_aload_n (pc := 0) (i := 0) dX7_begin_0 rfl rfl ?_
  refine x_bipush (pc := 1) (v := 31) dX7_begin_1 (by decide) ?_
  refine x_aload_n (pc := 3) (i := 0) dX7_begin_3 rfl rfl ?_
  refine x_getI (pc := 4) hS fX7_60 dX7_begin_4 rfl rfl ?_
  refine x_imul (pc := 7) dX7_begin_7 ?_
  refine x_iload_n (pc := 8) (i := 1) dX7_begin_8 rfl rfl ?_
  refine x_iadd (pc := 9) dX7_begin_9 ?_
  refine x_putI (pc := 10) hS fX7_60 dX7_begin_10 rfl rfl rfl rfl (fun hS => ?_)
  refine x_rv (pc := 13) dX7_begin_13 rfl ?_
  exact ⟨rfl, rfl⟩
theorem c_X0_isThere_7 {d : Nat} {w : mW} (hS : Shape w) : mC d kX0_isThere [.ref 7] w (fun r w' => r = some (.int (b2 (0 < fld w 7 0))) ∧ w' = w) := by
  refine mC.of (L := [_]) okX0_isThere 0 rfl rfl ?_
  refine x_aload_n (pc := 0) (i := 0) dX0_isThere_0 rfl rfl ?_
  refine x_getI (pc := 1) hS fX0_39 dX0_isThere_1 rfl rfl ?_
  refine x_if_le (pc := 4) (tgt := 11) dX0_isThere_4 (by decide) (fun h4 => ?_) (fun h4 => ?_)
  · refine x_iconst (pc := 11) (v := 0) dX0_isThere_11 (by decide) ?_
    refine x_ri (pc := 12) dX0_isThere_12 rfl rfl ?_
    exact ⟨by unfold b2; split <;> first | rfl | contradiction | (exfalso; (try simp only [b2_e0, b2_n0, Decidable.not_not] at *) <;> (try simp only [i_lt, i_le, i_eq, not_and, not_or, ne_eq, il_0, il_1, il_2, il_3, il_4, il_5, il_6, il_7, il_8, il_9, il_10, il_14, il_15, il_19, il_20, il_24, il_30, il_31, il_44, il_48, il_49, il_52, il_57, il_59, il_60, il_70, il_99, il_100, il_103, il_108, il_114, il_m1, il_m2, il_m3, il_m4, il_m9, il_m10, il_m100] at *) <;> omega), rfl⟩
  · refine x_iconst (pc := 7) (v := 1) dX0_isThere_7 (by decide) ?_
    refine x_goto (pc := 8) (tgt := 12) dX0_isThere_8 (by decide) ?_
    refine x_ri (pc := 12) dX0_isThere_12 rfl rfl ?_
    exact ⟨by unfold b2; split <;> first | rfl | contradiction | (exfalso; (try simp only [b2_e0, b2_n0, Decidable.not_not] at *) <;> (try simp only [i_lt, i_le, i_eq, not_and, not_or, ne_eq, il_0, il_1, il_2, il_3, il_4, il_5, il_6, il_7, il_8, il_9, il_10, il_14, il_15, il_19, il_20, il_24, il_30, il_31, il_44, il_48, il_49, il_52, il_57, il_59, il_60, il_70, il_99, il_100, il_103, il_108, il_114, il_m1, il_m2, il_m3, il_m4, il_m9, il_m10, il_m100] at *) <;> omega), rfl⟩
theorem c_X0_hasBarrow_7 {d : Nat} {w : mW} {b : Int32} (hS : Shape w) : mC d kX0_hasBarrow [.ref 7, .int b] w (fun r w' => r = some (.int (b2 (0 ≤ b ∧ b < fld w 7 0))) ∧ w' = w) := by
  refine mC.of (L := [_, _]) okX0_hasBarrow 0 rfl rfl ?_
  refine x_iload_n (pc := 0) (i := 1) dX0_hasBarrow_0 rfl rfl ?_
  refine x_if_lt (pc := 1) (tgt := 16) dX0_hasBarrow_1 (by decide) (fun h1 => ?_) (fun h1 => ?_)
  · refine x_iconst (pc := 16) (v := 0) dX0_hasBarrow_16 (by decide) ?_
    refine x_ri (pc := 17) dX0_hasBarrow_17 rfl rfl ?_
    exact ⟨by unfold b2; split <;> first | rfl | contradiction | (exfalso; (try simp only [b2_e0, b2_n0, Decidable.not_not] at *) <;> (try simp only [i_lt, i_le, i_eq, not_and, not_or, ne_eq, il_0, il_1, il_2, il_3, il_4, il_5, il_6, il_7, il_8, il_9, il_10, il_14, il_15, il_19, il_20, il_24, il_30, il_31, il_44, il_48, il_49, il_52, il_57, il_59, il_60, il_70, il_99, il_100, il_103, il_108, il_114, il_m1, il_m2, il_m3, il_m4, il_m9, il_m10, il_m100] at *) <;> omega), rfl⟩
  · refine x_iload_n (pc := 4) (i := 1) dX0_hasBarrow_4 rfl rfl ?_
    refine x_aload_n (pc := 5) (i := 0) dX0_hasBarrow_5 rfl rfl ?_
    refine x_getI (pc := 6) hS fX0_39 dX0_hasBarrow_6 rfl rfl ?_
    refine x_icmp_ge (pc := 9) (tgt := 16) dX0_hasBarrow_9 (by decide) (fun h9 => ?_) (fun h9 => ?_)
    · refine x_iconst (pc := 16) (v := 0) dX0_hasBarrow_16 (by decide) ?_
      refine x_ri (pc := 17) dX0_hasBarrow_17 rfl rfl ?_
      exact ⟨by unfold b2; split <;> first | rfl | contradiction | (exfalso; (try simp only [b2_e0, b2_n0, Decidable.not_not] at *) <;> (try simp only [i_lt, i_le, i_eq, not_and, not_or, ne_eq, il_0, il_1, il_2, il_3, il_4, il_5, il_6, il_7, il_8, il_9, il_10, il_14, il_15, il_19, il_20, il_24, il_30, il_31, il_44, il_48, il_49, il_52, il_57, il_59, il_60, il_70, il_99, il_100, il_103, il_108, il_114, il_m1, il_m2, il_m3, il_m4, il_m9, il_m10, il_m100] at *) <;> omega), rfl⟩
    · refine x_iconst (pc := 12) (v := 1) dX0_hasBarrow_12 (by decide) ?_
      refine x_goto (pc := 13) (tgt := 17) dX0_hasBarrow_13 (by decide) ?_
      refine x_ri (pc := 17) dX0_hasBarrow_17 rfl rfl ?_
      exact ⟨by unfold b2; split <;> first | rfl | contradiction | (exfalso; (try simp only [b2_e0, b2_n0, Decidable.not_not] at *) <;> (try simp only [i_lt, i_le, i_eq, not_and, not_or, ne_eq, il_0, il_1, il_2, il_3, il_4, il_5, il_6, il_7, il_8, il_9, il_10, il_14, il_15, il_19, il_20, il_24, il_30, il_31, il_44, il_48, il_49, il_52, il_57, il_59, il_60, il_70, il_99, il_100, il_103, il_108, il_114, il_m1, il_m2, il_m3, il_m4, il_m9, il_m10, il_m100] at *) <;> omega), rfl⟩
theorem c_X0_hasWalker_7 {d : Nat} {w : mW} {b : Int32} (hS : Shape w) : mC d kX0_hasWalker [.ref 7, .int b] w (fun r w' => r = some (.int (b2 (0 ≤ b ∧ b < fld w 7 1))) ∧ w' = w) := by
  refine mC.of (L := [_, _]) okX0_hasWalker 0 rfl rfl ?_
  refine x_iload_n (pc := 0) (i := 1) dX0_hasWalker_0 rfl rfl ?_
  refine x_if_lt (pc := 1) (tgt := 16) dX0_hasWalker_1 (by decide) (fun h1 => ?_) (fun h1 => ?_)
  · refine x_iconst (pc := 16) (v := 0) dX0_hasWalker_16 (by decide) ?_
    refine x_ri (pc := 17) dX0_hasWalker_17 rfl rfl ?_
    exact ⟨by unfold b2; split <;> first | rfl | contradiction | (exfalso; (try simp only [b2_e0, b2_n0, Decidable.not_not] at *) <;> (try simp only [i_lt, i_le, i_eq, not_and, not_or, ne_eq, il_0, il_1, il_2, il_3, il_4, il_5, il_6, il_7, il_8, il_9, il_10, il_14, il_15, il_19, il_20, il_24, il_30, il_31, il_44, il_48, il_49, il_52, il_57, il_59, il_60, il_70, il_99, il_100, il_103, il_108, il_114, il_m1, il_m2, il_m3, il_m4, il_m9, il_m10, il_m100] at *) <;> omega), rfl⟩
  · refine x_iload_n (pc := 4) (i := 1) dX0_hasWalker_4 rfl rfl ?_
    refine x_aload_n (pc := 5) (i := 0) dX0_hasWalker_5 rfl rfl ?_
    refine x_getI (pc := 6) hS fX0_43 dX0_hasWalker_6 rfl rfl ?_
    refine x_icmp_ge (pc := 9) (tgt := 16) dX0_hasWalker_9 (by decide) (fun h9 => ?_) (fun h9 => ?_)
    · refine x_iconst (pc := 16) (v := 0) dX0_hasWalker_16 (by decide) ?_
      refine x_ri (pc := 17) dX0_hasWalker_17 rfl rfl ?_
      exact ⟨by unfold b2; split <;> first | rfl | contradiction | (exfalso; (try simp only [b2_e0, b2_n0, Decidable.not_not] at *) <;> (try simp only [i_lt, i_le, i_eq, not_and, not_or, ne_eq, il_0, il_1, il_2, il_3, il_4, il_5, il_6, il_7, il_8, il_9, il_10, il_14, il_15, il_19, il_20, il_24, il_30, il_31, il_44, il_48, il_49, il_52, il_57, il_59, il_60, il_70, il_99, il_100, il_103, il_108, il_114, il_m1, il_m2, il_m3, il_m4, il_m9, il_m10, il_m100] at *) <;> omega), rfl⟩
    · refine x_iconst (pc := 12) (v := 1) dX0_hasWalker_12 (by decide) ?_
      refine x_goto (pc := 13) (tgt := 17) dX0_hasWalker_13 (by decide) ?_
      refine x_ri (pc := 17) dX0_hasWalker_17 rfl rfl ?_
      exact ⟨by unfold b2; split <;> first | rfl | contradiction | (exfalso; (try simp only [b2_e0, b2_n0, Decidable.not_not] at *) <;> (try simp only [i_lt, i_le, i_eq, not_and, not_or, ne_eq, il_0, il_1, il_2, il_3, il_4, il_5, il_6, il_7, il_8, il_9, il_10, il_14, il_15, il_19, il_20, il_24, il_30, il_31, il_44, il_48, il_49, il_52, il_57, il_59, il_60, il_70, il_99, il_100, il_103, il_108, il_114, il_m1, il_m2, il_m3, il_m4, il_m9, il_m10, il_m100] at *) <;> omega), rfl⟩
theorem c_X0_holdsOf_7 {d : Nat} {w : mW} {b : Int32} {nb : Nat} (hS : Shape w) (tb : (fld w 7 0).toInt = (nb : Int)) (hnb : nb ≤ 5) : mC (d + 1) kX0_holdsOf [.ref 7, .int b] w (fun r w' => r = some (.int (if 0 ≤ b ∧ b < fld w 7 0 then holdsE (arr w 8 b.toNatClampNeg) (arr w 9 b.toNatClampNeg) else 0)) ∧ w' = w) := by
  refine mC.of (L := [_, _]) okX0_holdsOf 0 rfl rfl ?_
  refine x_aload_n (pc := 0) (i := 0) dX0_holdsOf_0 rfl rfl ?_
  refine x_iload_n (pc := 1) (i := 1) dX0_holdsOf_1 rfl rfl ?_
  refine x_vs (pc := 2) (As := [_]) rfl hS lX0_49 dX0_holdsOf_2 rfl rfl (by decide) (c_X0_hasBarrow_7 hS) ?_
  rintro _ _ ⟨rfl, hq⟩
  obtain rfl := hq.symm
  refine x_pushI ?_
  refine x_if_eq (pc := 5) (tgt := 26) dX0_holdsOf_5 (by decide) (fun h5 => ?_) (fun h5 => ?_)
  · refine x_iconst (pc := 26) (v := 0) dX0_holdsOf_26 (by decide) ?_
    refine x_ri (pc := 27) dX0_holdsOf_27 rfl rfl ?_
    exact ⟨by split <;> first | rfl | contradiction | (exfalso; (try simp only [b2_e0, b2_n0, Decidable.not_not] at *) <;> (try simp only [i_lt, i_le, i_eq, not_and, not_or, ne_eq, il_0, il_1, il_2, il_3, il_4, il_5, il_6, il_7, il_8, il_9, il_10, il_14, il_15, il_19, il_20, il_24, il_30, il_31, il_44, il_48, il_49, il_52, il_57, il_59, il_60, il_70, il_99, il_100, il_103, il_108, il_114, il_m1, il_m2, il_m3, il_m4, il_m9, il_m10, il_m100] at *) <;> omega), rfl⟩
  · refine x_aload_n (pc := 8) (i := 0) dX0_holdsOf_8 rfl rfl ?_
    refine x_getR (pc := 9) hS fX0_9 dX0_holdsOf_9 rfl rfl ?_
    refine x_iload_n (pc := 12) (i := 1) dX0_holdsOf_12 rfl rfl ?_
    refine x_ald (pc := 13) hS dX0_holdsOf_13 rfl (by rw [vp_in_iff]; (try simp only [b2_e0, b2_n0, Decidable.not_not] at *) <;> (try simp only [i_lt, i_le, i_eq, not_and, not_or, ne_eq, il_0, il_1, il_2, il_3, il_4, il_5, il_6, il_7, il_8, il_9, il_10, il_14, il_15, il_19, il_20, il_24, il_30, il_31, il_44, il_48, il_49, il_52, il_57, il_59, il_60, il_70, il_99, il_100, il_103, il_108, il_114, il_m1, il_m2, il_m3, il_m4, il_m9, il_m10, il_m100] at *) <;> omega) ?_
    refine x_aload_n (pc := 14) (i := 0) dX0_holdsOf_14 rfl rfl ?_
    refine x_getR (pc := 15) hS fX0_15 dX0_holdsOf_15 rfl rfl ?_
    refine x_iload_n (pc := 18) (i := 1) dX0_holdsOf_18 rfl rfl ?_
    refine x_ald (pc := 19) hS dX0_holdsOf_19 rfl (by rw [vp_in_iff]; (try simp only [b2_e0, b2_n0, Decidable.not_not] at *) <;> (try simp only [i_lt, i_le, i_eq, not_and, not_or, ne_eq, il_0, il_1, il_2, il_3, il_4, il_5, il_6, il_7, il_8, il_9, il_10, il_14, il_15, il_19, il_20, il_24, il_30, il_31, il_44, il_48, il_49, il_52, il_57, il_59, il_60, il_70, il_99, il_100, il_103, il_108, il_114, il_m1, il_m2, il_m3, il_m4, il_m9, il_m10, il_m100] at *) <;> omega) ?_
    refine x_ss (pc := 20) (As := [_, _]) rfl lX0_53 dX0_holdsOf_20 rfl (by decide) c_X7_holdsAs ?_
    rintro _ _ ⟨rfl, hq⟩
    obtain rfl := hq.symm
    refine x_pushI ?_
    refine x_goto (pc := 23) (tgt := 27) dX0_holdsOf_23 (by decide) ?_
    refine x_ri (pc := 27) dX0_holdsOf_27 rfl rfl ?_
    exact ⟨by split <;> first | rfl | contradiction | (exfalso; (try simp only [b2_e0, b2_n0, Decidable.not_not] at *) <;> (try simp only [i_lt, i_le, i_eq, not_and, not_or, ne_eq, il_0, il_1, il_2, il_3, il_4, il_5, il_6, il_7, il_8, il_9, il_10, il_14, il_15, il_19, il_20, il_24, il_30, il_31, il_44, il_48, il_49, il_52, il_57, il_59, il_60, il_70, il_99, il_100, il_103, il_108, il_114, il_m1, il_m2, il_m3, il_m4, il_m9, il_m10, il_m100] at *) <;> omega), rfl⟩
theorem c_X0_isThere_18 {d : Nat} {w : mW} (hS : Shape w) : mC d kX0_isThere [.ref 18] w (fun r w' => r = some (.int (b2 (0 < fld w 18 0))) ∧ w' = w) := by
  refine mC.of (L := [_]) okX0_isThere 0 rfl rfl ?_
  refine x_aload_n (pc := 0) (i := 0) dX0_isThere_0 rfl rfl ?_
  refine x_getI (pc := 1) hS fX0_39 dX0_isThere_1 rfl rfl ?_
  refine x_if_le (pc := 4) (tgt := 11) dX0_isThere_4 (by decide) (fun h4 => ?_) (fun h4 => ?_)
  · refine x_iconst (pc := 11) (v := 0) dX0_isThere_11 (by decide) ?_
    refine x_ri (pc := 12) dX0_isThere_12 rfl rfl ?_
    exact ⟨by unfold b2; split <;> first | rfl | contradiction | (exfalso; (try simp only [b2_e0, b2_n0, Decidable.not_not] at *) <;> (try simp only [i_lt, i_le, i_eq, not_and, not_or, ne_eq, il_0, il_1, il_2, il_3, il_4, il_5, il_6, il_7, il_8, il_9, il_10, il_14, il_15, il_19, il_20, il_24, il_30, il_31, il_44, il_48, il_49, il_52, il_57, il_59, il_60, il_70, il_99, il_100, il_103, il_108, il_114, il_m1, il_m2, il_m3, il_m4, il_m9, il_m10, il_m100] at *) <;> omega), rfl⟩
  · refine x_iconst (pc := 7) (v := 1) dX0_isThere_7 (by decide) ?_
    refine x_goto (pc := 8) (tgt := 12) dX0_isThere_8 (by decide) ?_
    refine x_ri (pc := 12) dX0_isThere_12 rfl rfl ?_
    exact ⟨by unfold b2; split <;> first | rfl | contradiction | (exfalso; (try simp only [b2_e0, b2_n0, Decidable.not_not] at *) <;> (try simp only [i_lt, i_le, i_eq, not_and, not_or, ne_eq, il_0, il_1, il_2, il_3, il_4, il_5, il_6, il_7, il_8, il_9, il_10, il_14, il_15, il_19, il_20, il_24, il_30, il_31, il_44, il_48, il_49, il_52, il_57, il_59, il_60, il_70, il_99, il_100, il_103, il_108, il_114, il_m1, il_m2, il_m3, il_m4, il_m9, il_m10, il_m100] at *) <;> omega), rfl⟩
theorem c_X0_hasBarrow_18 {d : Nat} {w : mW} {b : Int32} (hS : Shape w) : mC d kX0_hasBarrow [.ref 18, .int b] w (fun r w' => r = some (.int (b2 (0 ≤ b ∧ b < fld w 18 0))) ∧ w' = w) := by
  refine mC.of (L := [_, _]) okX0_hasBarrow 0 rfl rfl ?_
  refine x_iload_n (pc := 0) (i := 1) dX0_hasBarrow_0 rfl rfl ?_
  refine x_if_lt (pc := 1) (tgt := 16) dX0_hasBarrow_1 (by decide) (fun h1 => ?_) (fun h1 => ?_)
  · refine x_iconst (pc := 16) (v := 0) dX0_hasBarrow_16 (by decide) ?_
    refine x_ri (pc := 17) dX0_hasBarrow_17 rfl rfl ?_
    exact ⟨by unfold b2; split <;> first | rfl | contradiction | (exfalso; (try simp only [b2_e0, b2_n0, Decidable.not_not] at *) <;> (try simp only [i_lt, i_le, i_eq, not_and, not_or, ne_eq, il_0, il_1, il_2, il_3, il_4, il_5, il_6, il_7, il_8, il_9, il_10, il_14, il_15, il_19, il_20, il_24, il_30, il_31, il_44, il_48, il_49, il_52, il_57, il_59, il_60, il_70, il_99, il_100, il_103, il_108, il_114, il_m1, il_m2, il_m3, il_m4, il_m9, il_m10, il_m100] at *) <;> omega), rfl⟩
  · refine x_iload_n (pc := 4) (i := 1) dX0_hasBarrow_4 rfl rfl ?_
    refine x_aload_n (pc := 5) (i := 0) dX0_hasBarrow_5 rfl rfl ?_
    refine x_getI (pc := 6) hS fX0_39 dX0_hasBarrow_6 rfl rfl ?_
    refine x_icmp_ge (pc := 9) (tgt := 16) dX0_hasBarrow_9 (by decide) (fun h9 => ?_) (fun h9 => ?_)
    · refine x_iconst (pc := 16) (v := 0) dX0_hasBarrow_16 (by decide) ?_
      refine x_ri (pc := 17) dX0_hasBarrow_17 rfl rfl ?_
      exact ⟨by unfold b2; split <;> first | rfl | contradiction | (exfalso; (try simp only [b2_e0, b2_n0, Decidable.not_not] at *) <;> (try simp only [i_lt, i_le, i_eq, not_and, not_or, ne_eq, il_0, il_1, il_2, il_3, il_4, il_5, il_6, il_7, il_8, il_9, il_10, il_14, il_15, il_19, il_20, il_24, il_30, il_31, il_44, il_48, il_49, il_52, il_57, il_59, il_60, il_70, il_99, il_100, il_103, il_108, il_114, il_m1, il_m2, il_m3, il_m4, il_m9, il_m10, il_m100] at *) <;> omega), rfl⟩
    · refine x_iconst (pc := 12) (v := 1) dX0_hasBarrow_12 (by decide) ?_
      refine x_goto (pc := 13) (tgt := 17) dX0_hasBarrow_13 (by decide) ?_
      refine x_ri (pc := 17) dX0_hasBarrow_17 rfl rfl ?_
      exact ⟨by unfold b2; split <;> first | rfl | contradiction | (exfalso; (try simp only [b2_e0, b2_n0, Decidable.not_not] at *) <;> (try simp only [i_lt, i_le, i_eq, not_and, not_or, ne_eq, il_0, il_1, il_2, il_3, il_4, il_5, il_6, il_7, il_8, il_9, il_10, il_14, il_15, il_19, il_20, il_24, il_30, il_31, il_44, il_48, il_49, il_52, il_57, il_59, il_60, il_70, il_99, il_100, il_103, il_108, il_114, il_m1, il_m2, il_m3, il_m4, il_m9, il_m10, il_m100] at *) <;> omega), rfl⟩
theorem c_X0_hasWalker_18 {d : Nat} {w : mW} {b : Int32} (hS : Shape w) : mC d kX0_hasWalker [.ref 18, .int b] w (fun r w' => r = some (.int (b2 (0 ≤ b ∧ b < fld w 18 1))) ∧ w' = w) := by
  refine mC.of (L := [_, _]) okX0_hasWalker 0 rfl rfl ?_
  refine x_iload_n (pc := 0) (i := 1) dX0_hasWalker_0 rfl rfl ?_
  refine x_if_lt (pc := 1) (tgt := 16) dX0_hasWalker_1 (by decide) (fun h1 => ?_) (fun h1 => ?_)
  · refine x_iconst (pc := 16) (v := 0) dX0_hasWalker_16 (by decide) ?_
    refine x_ri (pc := 17) dX0_hasWalker_17 rfl rfl ?_
    exact ⟨by unfold b2; split <;> first | rfl | contradiction | (exfalso; (try simp only [b2_e0, b2_n0, Decidable.not_not] at *) <;> (try simp only [i_lt, i_le, i_eq, not_and, not_or, ne_eq, il_0, il_1, il_2, il_3, il_4, il_5, il_6, il_7, il_8, il_9, il_10, il_14, il_15, il_19, il_20, il_24, il_30, il_31, il_44, il_48, il_49, il_52, il_57, il_59, il_60, il_70, il_99, il_100, il_103, il_108, il_114, il_m1, il_m2, il_m3, il_m4, il_m9, il_m10, il_m100] at *) <;> omega), rfl⟩
  · refine x_iload_n (pc := 4) (i := 1) dX0_hasWalker_4 rfl rfl ?_
    refine x_aload_n (pc := 5) (i := 0) dX0_hasWalker_5 rfl rfl ?_
    refine x_getI (pc := 6) hS fX0_43 dX0_hasWalker_6 rfl rfl ?_
    refine x_icmp_ge (pc := 9) (tgt := 16) dX0_hasWalker_9 (by decide) (fun h9 => ?_) (fun h9 => ?_)
    · refine x_iconst (pc := 16) (v := 0) dX0_hasWalker_16 (by decide) ?_
      refine x_ri (pc := 17) dX0_hasWalker_17 rfl rfl ?_
      exact ⟨by unfold b2; split <;> first | rfl | contradiction | (exfalso; (try simp only [b2_e0, b2_n0, Decidable.not_not] at *) <;> (try simp only [i_lt, i_le, i_eq, not_and, not_or, ne_eq, il_0, il_1, il_2, il_3, il_4, il_5, il_6, il_7, il_8, il_9, il_10, il_14, il_15, il_19, il_20, il_24, il_30, il_31, il_44, il_48, il_49, il_52, il_57, il_59, il_60, il_70, il_99, il_100, il_103, il_108, il_114, il_m1, il_m2, il_m3, il_m4, il_m9, il_m10, il_m100] at *) <;> omega), rfl⟩
    · refine x_iconst (pc := 12) (v := 1) dX0_hasWalker_12 (by decide) ?_
      refine x_goto (pc := 13) (tgt := 17) dX0_hasWalker_13 (by decide) ?_
      refine x_ri (pc := 17) dX0_hasWalker_17 rfl rfl ?_
      exact ⟨by unfold b2; split <;> first | rfl | contradiction | (exfalso; (try simp only [b2_e0, b2_n0, Decidable.not_not] at *) <;> (try simp only [i_lt, i_le, i_eq, not_and, not_or, ne_eq, il_0, il_1, il_2, il_3, il_4, il_5, il_6, il_7, il_8, il_9, il_10, il_14, il_15, il_19, il_20, il_24, il_30, il_31, il_44, il_48, il_49, il_52, il_57, il_59, il_60, il_70, il_99, il_100, il_103, il_108, il_114, il_m1, il_m2, il_m3, il_m4, il_m9, il_m10, il_m100] at *) <;> omega), rfl⟩
theorem c_X0_holdsOf_18 {d : Nat} {w : mW} {b : Int32} {nb : Nat} (hS : Shape w) (tb : (fld w 18 0).toInt = (nb : Int)) (hnb : nb ≤ 5) : mC (d + 1) kX0_holdsOf [.ref 18, .int b] w (fun r w' => r = some (.int (if 0 ≤ b ∧ b < fld w 18 0 then holdsE (arr w 19 b.toNatClampNeg) (arr w 20 b.toNatClampNeg) else 0)) ∧ w' = w) := by
  refine mC.of (L := [_, _]) okX0_holdsOf 0 rfl rfl ?_
  refine x_aload_n (pc := 0) (i := 0) dX0_holdsOf_0 rfl rfl ?_
  refine x_iload_n (pc := 1) (i := 1) dX0_holdsOf_1 rfl rfl ?_
  refine x_vs (pc := 2) (As := [_]) rfl hS lX0_49 dX0_holdsOf_2 rfl rfl (by decide) (c_X0_hasBarrow_18 hS) ?_
  rintro _ _ ⟨rfl, hq⟩
  obtain rfl := hq.symm
  refine x_pushI ?_
  refine x_if_eq (pc := 5) (tgt := 26) dX0_holdsOf_5 (by decide) (fun h5 => ?_) (fun h5 => ?_)
  · refine x_iconst (pc := 26) (v := 0) dX0_holdsOf_26 (by decide) ?_
    refine x_ri (pc := 27) dX0_holdsOf_27 rfl rfl ?_
    exact ⟨by split <;> first | rfl | contradiction | (exfalso; (try simp only [b2_e0, b2_n0, Decidable.not_not] at *) <;> (try simp only [i_lt, i_le, i_eq, not_and, not_or, ne_eq, il_0, il_1, il_2, il_3, il_4, il_5, il_6, il_7, il_8, il_9, il_10, il_14, il_15, il_19, il_20, il_24, il_30, il_31, il_44, il_48, il_49, il_52, il_57, il_59, il_60, il_70, il_99, il_100, il_103, il_108, il_114, il_m1, il_m2, il_m3, il_m4, il_m9, il_m10, il_m100] at *) <;> omega), rfl⟩
  · refine x_aload_n (pc := 8) (i := 0) dX0_holdsOf_8 rfl rfl ?_
    refine x_getR (pc := 9) hS fX0_9 dX0_holdsOf_9 rfl rfl ?_
    refine x_iload_n (pc := 12) (i := 1) dX0_holdsOf_12 rfl rfl ?_
    refine x_ald (pc := 13) hS dX0_holdsOf_13 rfl (by rw [vp_in_iff]; (try simp only [b2_e0, b2_n0, Decidable.not_not] at *) <;> (try simp only [i_lt, i_le, i_eq, not_and, not_or, ne_eq, il_0, il_1, il_2, il_3, il_4, il_5, il_6, il_7, il_8, il_9, il_10, il_14, il_15, il_19, il_20, il_24, il_30, il_31, il_44, il_48, il_49, il_52, il_57, il_59, il_60, il_70, il_99, il_100, il_103, il_108, il_114, il_m1, il_m2, il_m3, il_m4, il_m9, il_m10, il_m100] at *) <;> omega) ?_
    refine x_aload_n (pc := 14) (i := 0) dX0_holdsOf_14 rfl rfl ?_
    refine x_getR (pc := 15) hS fX0_15 dX0_holdsOf_15 rfl rfl ?_
    refine x_iload_n (pc := 18) (i := 1) dX0_holdsOf_18 rfl rfl ?_
    refine x_ald (pc := 19) hS dX0_holdsOf_19 rfl (by rw [vp_in_iff]; (try simp only [b2_e0, b2_n0, Decidable.not_not] at *) <;> (try simp only [i_lt, i_le, i_eq, not_and, not_or, ne_eq, il_0, il_1, il_2, il_3, il_4, il_5, il_6, il_7, il_8, il_9, il_10, il_14, il_15, il_19, il_20, il_24, il_30, il_31, il_44, il_48, il_49, il_52, il_57, il_59, il_60, il_70, il_99, il_100, il_103, il_108, il_114, il_m1, il_m2, il_m3, il_m4, il_m9, il_m10, il_m100] at *) <;> omega) ?_
    refine x_ss (pc := 20) (As := [_, _]) rfl lX0_53 dX0_holdsOf_20 rfl (by decide) c_X7_holdsAs ?_
    rintro _ _ ⟨rfl, hq⟩
    obtain rfl := hq.symm
    refine x_pushI ?_
    refine x_goto (pc := 23) (tgt := 27) dX0_holdsOf_23 (by decide) ?_
    refine x_ri (pc := 27) dX0_holdsOf_27 rfl rfl ?_
    exact ⟨by split <;> first | rfl | contradiction | (exfalso; (try simp only [b2_e0, b2_n0, Decidable.not_not] at *) <;> (try simp only [i_lt, i_le, i_eq, not_and, not_or, ne_eq, il_0, il_1, il_2, il_3, il_4, il_5, il_6, il_7, il_8, il_9, il_10, il_14, il_15, il_19, il_20, il_24, il_30, il_31, il_44, il_48, il_49, il_52, il_57, il_59, il_60, il_70, il_99, il_100, il_103, il_108, il_114, il_m1, il_m2, il_m3, il_m4, il_m9, il_m10, il_m100] at *) <;> omega), rfl⟩

