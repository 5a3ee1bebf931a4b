-- public calls that tell: ofBarrow, ofWalker, many, trace, fault
def pick6 (x a0 a1 a2 a3 a4 a5 : Int32) : Int32 := if x = 0 then a0 else if x = 1 then a1 else if x = 2 then a2 else if x = 3 then a3 else if x = 4 then a4 else if x = 5 then a5 else -2
theorem c_X7_ofBarrow_no {d : Nat} {w : mW} {b x : Int32} (hS : Shape w) (h : ¬ (0 ≤ b ∧ b < fld w 7 0)) : mC (d + 1) kX7_ofBarrow [.ref 0, .int b, .int x] w (fun r w' => r = some (.int (-1)) ∧ w' = w) := by
  refine mC.of (L := [_, _, _]) okX7_ofBarrow 0 rfl rfl ?_
  refine x_aload_n (pc := 0) (i := 0) dX7_ofBarrow_0 rfl rfl ?_
  refine x_getR (pc := 1) hS fX7_28 dX7_ofBarrow_1 rfl rfl ?_
  refine x_iload_n (pc := 4) (i := 1) dX7_ofBarrow_4 rfl rfl ?_
  refine x_vs (pc := 5) (As := [_]) rfl hS lX7_100 dX7_ofBarrow_5 rfl rfl (Nat.le_of_ble_eq_true rfl) (c_X0_hasBarrow_7 hS) ?_
  rintro _ _ ⟨rfl, hq⟩
  obtain rfl := hq.symm
  refine x_pushI ?_
  refine x_if_ne (pc := 8) (tgt := 13) dX7_ofBarrow_8 (by decide) (fun h8 => absurd h8 (by rw [b2_n0]; exact h)) (fun h8 => ?_)
  refine x_iconst (pc := 11) (v := (-1)) dX7_ofBarrow_11 (by decide) ?_
  refine x_ri (pc := 12) dX7_ofBarrow_12 rfl rfl ?_
  exact ⟨rfl, rfl⟩
theorem c_X7_ofBarrow {d : Nat} {w : mW} {x : Int32} {b nb nw : Nat} (hS : Shape w) (tb : (fld w 7 0).toInt = (nb : Int)) (hnb : nb ≤ 5) (tw : (fld w 7 1).toInt = (nw : Int)) (hnw : nw ≤ 5) (hb : b < nb) : mC (d + 2) kX7_ofBarrow [.ref 0, .int (nI b), .int x] w (fun r w' => r = some (.int (pick6 x (arr w 8 b) (arr w 9 b) (arr w 10 b) (arr w 11 b) (holdsE (arr w 8 b) (arr w 9 b)) (nI (bitsN (lodgP (arr w 15) (nI b)) nw)))) ∧ w' = w) := by
  have tk : (nI b).toInt = (b : Int) := nI_toInt (by omega)
  have cb : (nI b).toNatClampNeg = b := nI_clamp (by omega)
  refine mC.of (L := [_, _, _]) okX7_ofBarrow 0 rfl rfl ?_
  refine x_aload_n (pc := 0) (i := 0) dX7_ofBarrow_0 rfl rfl ?_
  refine x_getR (pc := 1) hS fX7_28 dX7_ofBarrow_1 rfl rfl ?_
  refine x_iload_n (pc := 4) (i := 1) dX7_ofBarrow_4 rfl rfl ?_
  refine x_vs (pc := 5) (As := [_]) rfl hS lX7_100 dX7_ofBarrow_5 rfl rfl (Nat.le_of_ble_eq_true rfl) (c_X0_hasBarrow_7 hS) ?_
  rintro _ _ ⟨rfl, hq⟩
  obtain rfl := hq.symm
  refine x_pushI ?_
  refine x_if_ne (pc := 8) (tgt := 13) dX7_ofBarrow_8 (by decide) (fun h8 => ?_) (fun h8 => absurd h8 (by rw [b2_n0]; exact ⟨by (try simp only [b2_e0, b2_n0, Decidable.not_not] at *) <;> (try simp only [i_lt, i_le, i_eq, not_and, not_or, ne_eq, il_0, il_1, il_2, il_3, il_4, il_5, il_6, il_7, il_8, il_9, il_10, il_14, il_15, il_19, il_20, il_24, il_30, il_31, il_44, il_48, il_49, il_52, il_57, il_59, il_60, il_70, il_99, il_100, il_103, il_108, il_114, il_m1, il_m2, il_m3, il_m4, il_m9, il_m10, il_m100] at *) <;> omega, by (try simp only [b2_e0, b2_n0, Decidable.not_not] at *) <;> (try simp only [i_lt, i_le, i_eq, not_and, not_or, ne_eq, il_0, il_1, il_2, il_3, il_4, il_5, il_6, il_7, il_8, il_9, il_10, il_14, il_15, il_19, il_20, il_24, il_30, il_31, il_44, il_48, il_49, il_52, il_57, il_59, il_60, il_70, il_99, il_100, il_103, il_108, il_114, il_m1, il_m2, il_m3, il_m4, il_m9, il_m10, il_m100] at *) <;> omega⟩))
  refine x_iload_n (pc := 13) (i := 2) dX7_ofBarrow_13 rfl rfl ?_
  by_cases h14_0 : x = 0
  · rw [h14_0]
    refine x_tableIn (pc := 14) (tgt := 52) dX7_ofBarrow_14 (by decide) (by decide) rfl (by decide) ?_
    refine x_aload_n (pc := 52) (i := 0) dX7_ofBarrow_52 rfl rfl ?_
    refine x_getR (pc := 53) hS fX7_28 dX7_ofBarrow_53 rfl rfl ?_
    refine x_getR (pc := 56) hS fX7_103 dX7_ofBarrow_56 rfl rfl ?_
    refine x_iload_n (pc := 59) (i := 1) dX7_ofBarrow_59 rfl rfl ?_
    refine x_aldN (pc := 60) hS dX7_ofBarrow_60 rfl (by omega) (by decide) ?_
    refine x_ri (pc := 61) dX7_ofBarrow_61 rfl rfl ?_
    exact ⟨by simp_all [pick6], rfl⟩
  by_cases h14_1 : x = 1
  · rw [h14_1]
    refine x_tableIn (pc := 14) (tgt := 62) dX7_ofBarrow_14 (by decide) (by decide) rfl (by decide) ?_
    refine x_aload_n (pc := 62) (i := 0) dX7_ofBarrow_62 rfl rfl ?_
    refine x_getR (pc := 63) hS fX7_28 dX7_ofBarrow_63 rfl rfl ?_
    refine x_getR (pc := 66) hS fX7_107 dX7_ofBarrow_66 rfl rfl ?_
    refine x_iload_n (pc := 69) (i := 1) dX7_ofBarrow_69 rfl rfl ?_
    refine x_aldN (pc := 70) hS dX7_ofBarrow_70 rfl (by omega) (by decide) ?_
    refine x_ri (pc := 71) dX7_ofBarrow_71 rfl rfl ?_
    exact ⟨by simp_all [pick6], rfl⟩
  by_cases h14_2 : x = 2
  · rw [h14_2]
    refine x_tableIn (pc := 14) (tgt := 72) dX7_ofBarrow_14 (by decide) (by decide) rfl (by decide) ?_
    refine x_aload_n (pc := 72) (i := 0) dX7_ofBarrow_72 rfl rfl ?_
    refine x_getR (pc := 73) hS fX7_28 dX7_ofBarrow_73 rfl rfl ?_
    refine x_getR (pc := 76) hS fX7_110 dX7_ofBarrow_76 rfl rfl ?_
    refine x_iload_n (pc := 79) (i := 1) dX7_ofBarrow_79 rfl rfl ?_
    refine x_aldN (pc := 80) hS dX7_ofBarrow_80 rfl (by omega) (by decide) ?_
    refine x_ri (pc := 81) dX7_ofBarrow_81 rfl rfl ?_
    exact ⟨by simp_all [pick6], rfl⟩
  by_cases h14_3 : x = 3
  · rw [h14_3]
    refine x_tableIn (pc := 14) (tgt := 82) dX7_ofBarrow_14 (by decide) (by decide) rfl (by decide) ?_
    refine x_aload_n (pc := 82) (i := 0) dX7_ofBarrow_82 rfl rfl ?_
    refine x_getR (pc := 83) hS fX7_28 dX7_ofBarrow_83 rfl rfl ?_
    refine x_getR (pc := 86) hS fX7_113 dX7_ofBarrow_86 rfl rfl ?_
    refine x_iload_n (pc := 89) (i := 1) dX7_ofBarrow_89 rfl rfl ?_
    refine x_aldN (pc := 90) hS dX7_ofBarrow_90 rfl (by omega) (by decide) ?_
    refine x_ri (pc := 91) dX7_ofBarrow_91 rfl rfl ?_
    exact ⟨by simp_all [pick6], rfl⟩
  by_cases h14_4 : x = 4
  · rw [h14_4]
    refine x_tableIn (pc := 14) (tgt := 92) dX7_ofBarrow_14 (by decide) (by decide) rfl (by decide) ?_
    refine x_aload_n (pc := 92) (i := 0) dX7_ofBarrow_92 rfl rfl ?_
    refine x_getR (pc := 93) hS fX7_28 dX7_ofBarrow_93 rfl rfl ?_
    refine x_iload_n (pc := 96) (i := 1) dX7_ofBarrow_96 rfl rfl ?_
    refine x_vs (pc := 97) (As := [_]) rfl hS lX7_116 dX7_ofBarrow_97 rfl rfl (Nat.le_of_ble_eq_true rfl) (c_X0_holdsOf_7 hS tb hnb) ?_
    rintro _ _ ⟨rfl, hq⟩
    obtain rfl := hq.symm
    refine x_pushI ?_
    rw [if_pos (c := 0 ≤ nI b ∧ nI b < fld w 7 0) ⟨by (try simp only [b2_e0, b2_n0, Decidable.not_not] at *) <;> (try simp only [i_lt, i_le, i_eq, not_and, not_or, ne_eq, il_0, il_1, il_2, il_3, il_4, il_5, il_6, il_7, il_8, il_9, il_10, il_14, il_15, il_19, il_20, il_24, il_30, il_31, il_44, il_48, il_49, il_52, il_57, il_59, il_60, il_70, il_99, il_100, il_103, il_108, il_114, il_m1, il_m2, il_m3, il_m4, il_m9, il_m10, il_m100] at *) <;> omega, by (try simp only [b2_e0, b2_n0, Decidable.not_not] at *) <;> (try simp only [i_lt, i_le, i_eq, not_and, not_or, ne_eq, il_0, il_1, il_2, il_3, il_4, il_5, il_6, il_7, il_8, il_9, il_10, il_14, il_15, il_19, il_20, il_24, il_30, il_31, il_44, il_48, il_49, il_52, il_57, il_59, il_60, il_70, il_99, il_100, il_103, il_108, il_114, il_m1, il_m2, il_m3, il_m4, il_m9, il_m10, il_m100] at *) <;> omega⟩, cb]
    refine x_ri (pc := 100) dX7_ofBarrow_100 rfl rfl ?_
    exact ⟨by simp_all [pick6], rfl⟩
  by_cases h14_5 : x = 5
  · rw [h14_5]
    refine x_tableIn (pc := 14) (tgt := 101) dX7_ofBarrow_14 (by decide) (by decide) rfl (by decide) ?_
    refine x_aload_n (pc := 101) (i := 0) dX7_ofBarrow_101 rfl rfl ?_
    refine x_getR (pc := 102) hS fX7_28 dX7_ofBarrow_102 rfl rfl ?_
    refine x_iload_n (pc := 105) (i := 1) dX7_ofBarrow_105 rfl rfl ?_
    refine x_vs (pc := 106) (As := [_]) rfl hS lX7_120 dX7_ofBarrow_106 rfl rfl (Nat.le_of_ble_eq_true rfl) (c_X0_lodgersOf_7 hS tw hnw) ?_
    rintro _ _ ⟨rfl, hq⟩
    obtain rfl := hq.symm
    refine x_pushI ?_
    refine x_ri (pc := 109) dX7_ofBarrow_109 rfl rfl ?_
    exact ⟨by simp_all [pick6], rfl⟩
  refine x_tableOut (pc := 14) (tgt := 110) dX7_ofBarrow_14 (sw_out6 h14_0 h14_1 h14_2 h14_3 h14_4 h14_5) (by decide) ?_
  refine x_bipush (pc := 110) (v := (-2)) dX7_ofBarrow_110 (by decide) ?_
  refine x_ri (pc := 112) dX7_ofBarrow_112 rfl rfl ?_
  exact ⟨by simp_all [pick6], rfl⟩
theorem c_X8_ofBarrow_no {d : Nat} {w : mW} {b x : Int32} (hS : Shape w) (h : ¬ (0 ≤ b ∧ b < fld w 44 5)) : mC (d + 1) kX8_ofBarrow [.ref 44, .int b, .int x] w (fun r w' => r = some (.int (-1)) ∧ w' = w) := by
  refine mC.of (L := [_, _, _]) okX8_ofBarrow 0 rfl rfl ?_
  refine x_aload_n (pc := 0) (i := 0) dX8_ofBarrow_0 rfl rfl ?_
  refine x_iload_n (pc := 1) (i := 1) dX8_ofBarrow_1 rfl rfl ?_
  refine x_vs (pc := 2) (As := [_]) rfl hS lX8_152 dX8_ofBarrow_2 rfl rfl (Nat.le_of_ble_eq_true rfl) (c_X8_isBarrow hS) ?_
  rintro _ _ ⟨rfl, hq⟩
  obtain rfl := hq.symm
  refine x_pushI ?_
  refine x_if_ne (pc := 5) (tgt := 10) dX8_ofBarrow_5 (by decide) (fun h5 => absurd h5 (by rw [b2_n0]; exact h)) (fun h5 => ?_)
  refine x_iconst (pc := 8) (v := (-1)) dX8_ofBarrow_8 (by decide) ?_
  refine x_ri (pc := 9) dX8_ofBarrow_9 rfl rfl ?_
  exact ⟨rfl, rfl⟩
theorem c_X8_ofBarrow {d : Nat} {w : mW} {x : Int32} {b nb nw : Nat} (hS : Shape w) (tb : (fld w 44 5).toInt = (nb : Int)) (hnb : nb ≤ 5) (tw : (fld w 44 6).toInt = (nw : Int)) (hnw : nw ≤ 5) (hb : b < nb) (hki : arr w 48 b = 0 ∨ arr w 48 b = 1 ∨ arr w 48 b = 2) : mC (d + 2) kX8_ofBarrow [.ref 44, .int (nI b), .int x] w (fun r w' => r = some (.int (pick6 x (arr w 48 b) (arr w 49 b) (arr w 50 b) (arr w 51 b) (holdsE (arr w 48 b) (arr w 49 b)) (nI (bitsN (lodgP (arr w 55) (nI b)) nw)))) ∧ w' = w) := by
  have tk : (nI b).toInt = (b : Int) := nI_toInt (by omega)
  refine mC.of (L := [_, _, _]) okX8_ofBarrow 0 rfl rfl ?_
  refine x_aload_n (pc := 0) (i := 0) dX8_ofBarrow_0 rfl rfl ?_
  refine x_iload_n (pc := 1) (i := 1) dX8_ofBarrow_1 rfl rfl ?_
  refine x_vs (pc := 2) (As := [_]) rfl hS lX8_152 dX8_ofBarrow_2 rfl rfl (Nat.le_of_ble_eq_true rfl) (c_X8_isBarrow hS) ?_
  rintro _ _ ⟨rfl, hq⟩
  obtain rfl := hq.symm
  refine x_pushI ?_
  refine x_if_ne (pc := 5) (tgt := 10) dX8_ofBarrow_5 (by decide) (fun h5 => ?_) (fun h5 => absurd h5 (by rw [b2_n0]; exact ⟨by (try simp only [b2_e0, b2_n0, Decidable.not_not] at *) <;> (try simp only [i_lt, i_le, i_eq, not_and, not_or, ne_eq, il_0, il_1, il_2, il_3, il_4, il_5, il_6, il_7, il_8, il_9, il_10, il_14, il_15, il_19, il_20, il_24, il_30, il_31, il_44, il_48, il_49, il_52, il_57, il_59, il_60, il_70, il_99, il_100, il_103, il_108, il_114, il_m1, il_m2, il_m3, il_m4, il_m9, il_m10, il_m100] at *) <;> omega, by (try simp only [b2_e0, b2_n0, Decidable.not_not] at *) <;> (try simp only [i_lt, i_le, i_eq, not_and, not_or, ne_eq, il_0, il_1, il_2, il_3, il_4, il_5, il_6, il_7, il_8, il_9, il_10, il_14, il_15, il_19, il_20, il_24, il_30, il_31, il_44, il_48, il_49, il_52, il_57, il_59, il_60, il_70, il_99, il_100, il_103, il_108, il_114, il_m1, il_m2, il_m3, il_m4, il_m9, il_m10, il_m100] at *) <;> omega⟩))
  refine x_iload_n (pc := 10) (i := 2) dX8_ofBarrow_10 rfl rfl ?_
  by_cases h11_0 : x = 0
  · rw [h11_0]
    refine x_tableIn (pc := 11) (tgt := 48) dX8_ofBarrow_11 (by decide) (by decide) rfl (by decide) ?_
    refine x_aload_n (pc := 48) (i := 0) dX8_ofBarrow_48 rfl rfl ?_
    refine x_getR (pc := 49) hS fX8_19 dX8_ofBarrow_49 rfl rfl ?_
    refine x_iload_n (pc := 52) (i := 1) dX8_ofBarrow_52 rfl rfl ?_
    refine x_aldN (pc := 53) hS dX8_ofBarrow_53 rfl (by omega) (by decide) ?_
    refine x_ri (pc := 54) dX8_ofBarrow_54 rfl rfl ?_
    exact ⟨by simp_all [pick6], rfl⟩
  by_cases h11_1 : x = 1
  · rw [h11_1]
    refine x_tableIn (pc := 11) (tgt := 55) dX8_ofBarrow_11 (by decide) (by decide) rfl (by decide) ?_
    refine x_aload_n (pc := 55) (i := 0) dX8_ofBarrow_55 rfl rfl ?_
    refine x_getR (pc := 56) hS fX8_22 dX8_ofBarrow_56 rfl rfl ?_
    refine x_iload_n (pc := 59) (i := 1) dX8_ofBarrow_59 rfl rfl ?_
    refine x_aldN (pc := 60) hS dX8_ofBarrow_60 rfl (by omega) (by decide) ?_
    refine x_ri (pc := 61) dX8_ofBarrow_61 rfl rfl ?_
    exact ⟨by simp_all [pick6], rfl⟩
  by_cases h11_2 : x = 2
  · rw [h11_2]
    refine x_tableIn (pc := 11) (tgt := 62) dX8_ofBarrow_11 (by decide) (by decide) rfl (by decide) ?_
    refine x_aload_n (pc := 62) (i := 0) dX8_ofBarrow_62 rfl rfl ?_
    refine x_getR (pc := 63) hS fX8_25 dX8_ofBarrow_63 rfl rfl ?_
    refine x_iload_n (pc := 66) (i := 1) dX8_ofBarrow_66 rfl rfl ?_
    refine x_aldN (pc := 67) hS dX8_ofBarrow_67 rfl (by omega) (by decide) ?_
    refine x_ri (pc := 68) dX8_ofBarrow_68 rfl rfl ?_
    exact ⟨by simp_all [pick6], rfl⟩
  by_cases h11_3 : x = 3
  · rw [h11_3]
    refine x_tableIn (pc := 11) (tgt := 69) dX8_ofBarrow_11 (by decide) (by decide) rfl (by decide) ?_
    refine x_aload_n (pc := 69) (i := 0) dX8_ofBarrow_69 rfl rfl ?_
    refine x_getR (pc := 70) hS fX8_28 dX8_ofBarrow_70 rfl rfl ?_
    refine x_iload_n (pc := 73) (i := 1) dX8_ofBarrow_73 rfl rfl ?_
    refine x_aldN (pc := 74) hS dX8_ofBarrow_74 rfl (by omega) (by decide) ?_
    refine x_ri (pc := 75) dX8_ofBarrow_75 rfl rfl ?_
    exact ⟨by simp_all [pick6], rfl⟩
  by_cases h11_4 : x = 4
  · rw [h11_4]
    refine x_tableIn (pc := 11) (tgt := 76) dX8_ofBarrow_11 (by decide) (by decide) rfl (by decide) ?_
    refine x_aload_n (pc := 76) (i := 0) dX8_ofBarrow_76 rfl rfl ?_
    refine x_iload_n (pc := 77) (i := 1) dX8_ofBarrow_77 rfl rfl ?_
    refine x_vs (pc := 78) (As := [_]) rfl hS lX8_155 dX8_ofBarrow_78 rfl rfl (Nat.le_of_ble_eq_true rfl) (c_X8_holdsOf hS (by omega) hki) ?_
    rintro _ _ ⟨rfl, hq⟩
    obtain rfl := hq.symm
    refine x_pushI ?_
    refine x_ri (pc := 81) dX8_ofBarrow_81 rfl rfl ?_
    exact ⟨by simp_all [pick6], rfl⟩
  by_cases h11_5 : x = 5
  · rw [h11_5]
    refine x_tableIn (pc := 11) (tgt := 82) dX8_ofBarrow_11 (by decide) (by decide) rfl (by decide) ?_
    refine x_aload_n (pc := 82) (i := 0) dX8_ofBarrow_82 rfl rfl ?_
    refine x_iload_n (pc := 83) (i := 1) dX8_ofBarrow_83 rfl rfl ?_
    refine x_vs (pc := 84) (As := [_]) rfl hS lX8_158 dX8_ofBarrow_84 rfl rfl (Nat.le_of_ble_eq_true rfl) (c_X8_lodgersOf hS tw hnw) ?_
    rintro _ _ ⟨rfl, hq⟩
    obtain rfl := hq.symm
    refine x_pushI ?_
    refine x_ri (pc := 87) dX8_ofBarrow_87 rfl rfl ?_
    exact ⟨by simp_all [pick6], rfl⟩
  refine x_tableOut (pc := 11) (tgt := 88) dX8_ofBarrow_11 (sw_out6 h11_0 h11_1 h11_2 h11_3 h11_4 h11_5) (by decide) ?_
  refine x_bipush (pc := 88) (v := (-2)) dX8_ofBarrow_88 (by decide) ?_
  refine x_ri (pc := 90) dX8_ofBarrow_90 rfl rfl ?_
  exact ⟨by simp_all [pick6], rfl⟩
theorem both_ofBarrow {w : mW} (hI : Inv w) (b x : Int32) : Both kX7_ofBarrow kX8_ofBarrow [.int b, .int x] w := by
  intro d
  obtain ⟨hS, nb, nw, nr, hD, hR, hSI, hT⟩ := id hI
  obtain ⟨h1, h2, h3, tb, tw, hB, hW, ⟨e1, e2, e3⟩, f8, f9, f10, f11, f12, f13, f14, f15, f16⟩ := id hD
  by_cases hb : 0 ≤ b ∧ b < fld w 7 0
  · obtain ⟨j, hj, rfl⟩ := in_nI tb (by omega) hb
    refine mC.mono (c_X7_ofBarrow (d := d + 18) hS tb h1 tw h2 hj) ?_
    rintro _ _ ⟨rfl, hq⟩
    obtain rfl := hq.symm
    refine mC.mono (c_X8_ofBarrow (d := d + 18) hS (by rw [e1]; exact tb) h1 (by rw [e2]; exact tw) h2 hj (by rw [f8]; exact (hB j hj).1)) ?_
    rintro _ _ ⟨rfl, hq⟩
    obtain rfl := hq.symm
    exact ⟨by rw [f8, f9, f10, f11, f15], hI⟩
  · refine mC.mono (c_X7_ofBarrow_no (d := d + 19) hS hb) ?_
    rintro _ _ ⟨rfl, hq⟩
    obtain rfl := hq.symm
    refine mC.mono (c_X8_ofBarrow_no (d := d + 19) hS (by rw [e1]; exact hb)) ?_
    rintro _ _ ⟨rfl, hq⟩
    obtain rfl := hq.symm
    exact ⟨rfl, hI⟩

