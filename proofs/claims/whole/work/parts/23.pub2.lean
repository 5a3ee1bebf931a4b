theorem c_X7_ofWalker_no {d : Nat} {w : mW} {b x : Int32} (hS : Shape w) (h : ¬ (0 ≤ b ∧ b < fld w 7 1)) : mC (d + 1) kX7_ofWalker [.ref 0, .int b, .int x] w (fun r w' => r = some (.int (-1)) ∧ w' = w) := by
  refine mC.of (L := [_, _, _]) okX7_ofWalker 0 rfl rfl ?_
  refine x_aload_n (pc := 0) (i := 0) dX7_ofWalker_0 rfl rfl ?_
  refine x_getR (pc := 1) hS fX7_28 dX7_ofWalker_1 rfl rfl ?_
  refine x_iload_n (pc := 4) (i := 1) dX7_ofWalker_4 rfl rfl ?_
  refine x_vs (pc := 5) (As := [_]) rfl hS lX7_123 dX7_ofWalker_5 rfl rfl (Nat.le_of_ble_eq_true rfl) (c_X0_hasWalker_7 hS) ?_
  rintro _ _ ⟨rfl, hq⟩
  obtain rfl := hq.symm
  refine x_pushI ?_
  refine x_if_ne (pc := 8) (tgt := 13) dX7_ofWalker_8 (by decide) (fun h8 => absurd h8 (by rw [b2_n0]; exact h)) (fun h8 => ?_)
  refine x_iconst (pc := 11) (v := (-1)) dX7_ofWalker_11 (by decide) ?_
  refine x_ri (pc := 12) dX7_ofWalker_12 rfl rfl ?_
  exact ⟨rfl, rfl⟩
theorem c_X7_ofWalker {d : Nat} {w : mW} {x : Int32} {b nw : Nat} (hS : Shape w) (tw : (fld w 7 1).toInt = (nw : Int)) (hnw : nw ≤ 5) (hb : b < nw) : mC (d + 2) kX7_ofWalker [.ref 0, .int (nI b), .int x] w (fun r w' => r = some (.int (pick6 x (arr w 12 b) (arr w 13 b) (arr w 14 b) (arr w 15 b) (arr w 16 b) (if inB (fld w 7 0) (arr w 15) b then dreamN (arr w 15) (arr w 15 b) b else -9))) ∧ w' = w) := by
  have tk : (nI b).toInt = (b : Int) := nI_toInt (by omega)
  refine mC.of (L := [_, _, _]) okX7_ofWalker 0 rfl rfl ?_
  refine x_aload_n (pc := 0) (i := 0) dX7_ofWalker_0 rfl rfl ?_
  refine x_getR (pc := 1) hS fX7_28 dX7_ofWalker_1 rfl rfl ?_
  refine x_iload_n (pc := 4) (i := 1) dX7_ofWalker_4 rfl rfl ?_
  refine x_vs (pc := 5) (As := [_]) rfl hS lX7_123 dX7_ofWalker_5 rfl rfl (Nat.le_of_ble_eq_true rfl) (c_X0_hasWalker_7 hS) ?_
  rintro _ _ ⟨rfl, hq⟩
  obtain rfl := hq.symm
  refine x_pushI ?_
  refine x_if_ne (pc := 8) (tgt := 13) dX7_ofWalker_8 (by decide) (fun h8 => ?_) (fun h8 => absurd h8 (by rw [b2_n0]; exact ⟨by (try simp only [b2_e0, b2_n0, Decidable.not_not] at *) <;> (try simp only [i_lt, i_le, i_eq, not_and, not_or, ne_eq, il_0, il_1, il_2, il_3, il_4, il_5, il_6, il_7, il_8, il_9, il_10, il_14, il_15, il_19, il_20, il_24, il_30, il_31, il_44, il_48, il_49, il_52, il_57, il_59, il_60, il_70, il_99, il_100, il_103, il_108, il_114, il_m1, il_m2, il_m3, il_m4, il_m9, il_m10, il_m100] at *) <;> omega, by (try simp only [b2_e0, b2_n0, Decidable.not_not] at *) <;> (try simp only [i_lt, i_le, i_eq, not_and, not_or, ne_eq, il_0, il_1, il_2, il_3, il_4, il_5, il_6, il_7, il_8, il_9, il_10, il_14, il_15, il_19, il_20, il_24, il_30, il_31, il_44, il_48, il_49, il_52, il_57, il_59, il_60, il_70, il_99, il_100, il_103, il_108, il_114, il_m1, il_m2, il_m3, il_m4, il_m9, il_m10, il_m100] at *) <;> omega⟩))
  refine x_iload_n (pc := 13) (i := 2) dX7_ofWalker_13 rfl rfl ?_
  by_cases h14_0 : x = 0
  · rw [h14_0]
    refine x_tableIn (pc := 14) (tgt := 52) dX7_ofWalker_14 (by decide) (by decide) rfl (by decide) ?_
    refine x_aload_n (pc := 52) (i := 0) dX7_ofWalker_52 rfl rfl ?_
    refine x_getR (pc := 53) hS fX7_28 dX7_ofWalker_53 rfl rfl ?_
    refine x_getR (pc := 56) hS fX7_126 dX7_ofWalker_56 rfl rfl ?_
    refine x_iload_n (pc := 59) (i := 1) dX7_ofWalker_59 rfl rfl ?_
    refine x_aldN (pc := 60) hS dX7_ofWalker_60 rfl (by omega) (by decide) ?_
    refine x_ri (pc := 61) dX7_ofWalker_61 rfl rfl ?_
    exact ⟨by simp_all [pick6], rfl⟩
  by_cases h14_1 : x = 1
  · rw [h14_1]
    refine x_tableIn (pc := 14) (tgt := 62) dX7_ofWalker_14 (by decide) (by decide) rfl (by decide) ?_
    refine x_aload_n (pc := 62) (i := 0) dX7_ofWalker_62 rfl rfl ?_
    refine x_getR (pc := 63) hS fX7_28 dX7_ofWalker_63 rfl rfl ?_
    refine x_getR (pc := 66) hS fX7_129 dX7_ofWalker_66 rfl rfl ?_
    refine x_iload_n (pc := 69) (i := 1) dX7_ofWalker_69 rfl rfl ?_
    refine x_aldN (pc := 70) hS dX7_ofWalker_70 rfl (by omega) (by decide) ?_
    refine x_ri (pc := 71) dX7_ofWalker_71 rfl rfl ?_
    exact ⟨by simp_all [pick6], rfl⟩
  by_cases h14_2 : x = 2
  · rw [h14_2]
    refine x_tableIn (pc := 14) (tgt := 72) dX7_ofWalker_14 (by decide) (by decide) rfl (by decide) ?_
    refine x_aload_n (pc := 72) (i := 0) dX7_ofWalker_72 rfl rfl ?_
    refine x_getR (pc := 73) hS fX7_28 dX7_ofWalker_73 rfl rfl ?_
    refine x_getR (pc := 76) hS fX7_132 dX7_ofWalker_76 rfl rfl ?_
    refine x_iload_n (pc := 79) (i := 1) dX7_ofWalker_79 rfl rfl ?_
    refine x_aldN (pc := 80) hS dX7_ofWalker_80 rfl (by omega) (by decide) ?_
    refine x_ri (pc := 81) dX7_ofWalker_81 rfl rfl ?_
    exact ⟨by simp_all [pick6], rfl⟩
  by_cases h14_3 : x = 3
  · rw [h14_3]
    refine x_tableIn (pc := 14) (tgt := 82) dX7_ofWalker_14 (by decide) (by decide) rfl (by decide) ?_
    refine x_aload_n (pc := 82) (i := 0) dX7_ofWalker_82 rfl rfl ?_
    refine x_getR (pc := 83) hS fX7_28 dX7_ofWalker_83 rfl rfl ?_
    refine x_getR (pc := 86) hS fX7_135 dX7_ofWalker_86 rfl rfl ?_
    refine x_iload_n (pc := 89) (i := 1) dX7_ofWalker_89 rfl rfl ?_
    refine x_aldN (pc := 90) hS dX7_ofWalker_90 rfl (by omega) (by decide) ?_
    refine x_ri (pc := 91) dX7_ofWalker_91 rfl rfl ?_
    exact ⟨by simp_all [pick6], rfl⟩
  by_cases h14_4 : x = 4
  · rw [h14_4]
    refine x_tableIn (pc := 14) (tgt := 92) dX7_ofWalker_14 (by decide) (by decide) rfl (by decide) ?_
    refine x_aload_n (pc := 92) (i := 0) dX7_ofWalker_92 rfl rfl ?_
    refine x_getR (pc := 93) hS fX7_28 dX7_ofWalker_93 rfl rfl ?_
    refine x_getR (pc := 96) hS fX7_138 dX7_ofWalker_96 rfl rfl ?_
    refine x_iload_n (pc := 99) (i := 1) dX7_ofWalker_99 rfl rfl ?_
    refine x_aldN (pc := 100) hS dX7_ofWalker_100 rfl (by omega) (by decide) ?_
    refine x_ri (pc := 101) dX7_ofWalker_101 rfl rfl ?_
    exact ⟨by simp_all [pick6], rfl⟩
  by_cases h14_5 : x = 5
  · rw [h14_5]
    refine x_tableIn (pc := 14) (tgt := 102) dX7_ofWalker_14 (by decide) (by decide) rfl (by decide) ?_
    refine x_aload_n (pc := 102) (i := 0) dX7_ofWalker_102 rfl rfl ?_
    refine x_getR (pc := 103) hS fX7_28 dX7_ofWalker_103 rfl rfl ?_
    refine x_iload_n (pc := 106) (i := 1) dX7_ofWalker_106 rfl rfl ?_
    refine x_vs (pc := 107) (As := [_]) rfl hS lX7_141 dX7_ofWalker_107 rfl rfl (Nat.le_of_ble_eq_true rfl) (c_X0_dreamOf hS tw hnw hb) ?_
    rintro _ _ ⟨rfl, hq⟩
    obtain rfl := hq.symm
    refine x_pushI ?_
    refine x_ri (pc := 110) dX7_ofWalker_110 rfl rfl ?_
    exact ⟨by simp_all [pick6], rfl⟩
  refine x_tableOut (pc := 14) (tgt := 111) dX7_ofWalker_14 (sw_out6 h14_0 h14_1 h14_2 h14_3 h14_4 h14_5) (by decide) ?_
  refine x_bipush (pc := 111) (v := (-2)) dX7_ofWalker_111 (by decide) ?_
  refine x_ri (pc := 113) dX7_ofWalker_113 rfl rfl ?_
  exact ⟨by simp_all [pick6], rfl⟩
theorem c_X8_ofWalker_no {d : Nat} {w : mW} {b x : Int32} (hS : Shape w) (h : ¬ (0 ≤ b ∧ b < fld w 44 6)) : mC (d + 1) kX8_ofWalker [.ref 44, .int b, .int x] w (fun r w' => r = some (.int (-1)) ∧ w' = w) := by
  refine mC.of (L := [_, _, _]) okX8_ofWalker 0 rfl rfl ?_
  refine x_aload_n (pc := 0) (i := 0) dX8_ofWalker_0 rfl rfl ?_
  refine x_iload_n (pc := 1) (i := 1) dX8_ofWalker_1 rfl rfl ?_
  refine x_vs (pc := 2) (As := [_]) rfl hS lX8_161 dX8_ofWalker_2 rfl rfl (Nat.le_of_ble_eq_true rfl) (c_X8_isWalker hS) ?_
  rintro _ _ ⟨rfl, hq⟩
  obtain rfl := hq.symm
  refine x_pushI ?_
  refine x_if_ne (pc := 5) (tgt := 10) dX8_ofWalker_5 (by decide) (fun h5 => absurd h5 (by rw [b2_n0]; exact h)) (fun h5 => ?_)
  refine x_iconst (pc := 8) (v := (-1)) dX8_ofWalker_8 (by decide) ?_
  refine x_ri (pc := 9) dX8_ofWalker_9 rfl rfl ?_
  exact ⟨rfl, rfl⟩
theorem c_X8_ofWalker {d : Nat} {w : mW} {x : Int32} {b nw : Nat} (hS : Shape w) (tw : (fld w 44 6).toInt = (nw : Int)) (hnw : nw ≤ 5) (hb : b < nw) : mC (d + 2) kX8_ofWalker [.ref 44, .int (nI b), .int x] w (fun r w' => r = some (.int (pick6 x (arr w 52 b) (arr w 53 b) (arr w 54 b) (arr w 55 b) (arr w 56 b) (if arr w 55 b = -9 then -9 else dreamN (arr w 55) (arr w 55 b) b))) ∧ w' = w) := by
  have tk : (nI b).toInt = (b : Int) := nI_toInt (by omega)
  refine mC.of (L := [_, _, _]) okX8_ofWalker 0 rfl rfl ?_
  refine x_aload_n (pc := 0) (i := 0) dX8_ofWalker_0 rfl rfl ?_
  refine x_iload_n (pc := 1) (i := 1) dX8_ofWalker_1 rfl rfl ?_
  refine x_vs (pc := 2) (As := [_]) rfl hS lX8_161 dX8_ofWalker_2 rfl rfl (Nat.le_of_ble_eq_true rfl) (c_X8_isWalker hS) ?_
  rintro _ _ ⟨rfl, hq⟩
  obtain rfl := hq.symm
  refine x_pushI ?_
  refine x_if_ne (pc := 5) (tgt := 10) dX8_ofWalker_5 (by decide) (fun h5 => ?_) (fun h5 => absurd h5 (by rw [b2_n0]; exact ⟨by (try simp only [b2_e0, b2_n0, Decidable.not_not] at *) <;> (try simp only [i_lt, i_le, i_eq, not_and, not_or, ne_eq, il_0, il_1, il_2, il_3, il_4, il_5, il_6, il_7, il_8, il_9, il_10, il_14, il_15, il_19, il_20, il_24, il_30, il_31, il_44, il_48, il_49, il_52, il_57, il_59, il_60, il_70, il_99, il_100, il_103, il_108, il_114, il_m1, il_m2, il_m3, il_m4, il_m9, il_m10, il_m100] at *) <;> omega, by (try simp only [b2_e0, b2_n0, Decidable.not_not] at *) <;> (try simp only [i_lt, i_le, i_eq, not_and, not_or, ne_eq, il_0, il_1, il_2, il_3, il_4, il_5, il_6, il_7, il_8, il_9, il_10, il_14, il_15, il_19, il_20, il_24, il_30, il_31, il_44, il_48, il_49, il_52, il_57, il_59, il_60, il_70, il_99, il_100, il_103, il_108, il_114, il_m1, il_m2, il_m3, il_m4, il_m9, il_m10, il_m100] at *) <;> omega⟩))
  refine x_iload_n (pc := 10) (i := 2) dX8_ofWalker_10 rfl rfl ?_
  by_cases h11_0 : x = 0
  · rw [h11_0]
    refine x_tableIn (pc := 11) (tgt := 48) dX8_ofWalker_11 (by decide) (by decide) rfl (by decide) ?_
    refine x_aload_n (pc := 48) (i := 0) dX8_ofWalker_48 rfl rfl ?_
    refine x_getR (pc := 49) hS fX8_31 dX8_ofWalker_49 rfl rfl ?_
    refine x_iload_n (pc := 52) (i := 1) dX8_ofWalker_52 rfl rfl ?_
    refine x_aldN (pc := 53) hS dX8_ofWalker_53 rfl (by omega) (by decide) ?_
    refine x_ri (pc := 54) dX8_ofWalker_54 rfl rfl ?_
    exact ⟨by simp_all [pick6], rfl⟩
  by_cases h11_1 : x = 1
  · rw [h11_1]
    refine x_tableIn (pc := 11) (tgt := 55) dX8_ofWalker_11 (by decide) (by decide) rfl (by decide) ?_
    refine x_aload_n (pc := 55) (i := 0) dX8_ofWalker_55 rfl rfl ?_
    refine x_getR (pc := 56) hS fX8_34 dX8_ofWalker_56 rfl rfl ?_
    refine x_iload_n (pc := 59) (i := 1) dX8_ofWalker_59 rfl rfl ?_
    refine x_aldN (pc := 60) hS dX8_ofWalker_60 rfl (by omega) (by decide) ?_
    refine x_ri (pc := 61) dX8_ofWalker_61 rfl rfl ?_
    exact ⟨by simp_all [pick6], rfl⟩
  by_cases h11_2 : x = 2
  · rw [h11_2]
    refine x_tableIn (pc := 11) (tgt := 62) dX8_ofWalker_11 (by decide) (by decide) rfl (by decide) ?_
    refine x_aload_n (pc := 62) (i := 0) dX8_ofWalker_62 rfl rfl ?_
    refine x_getR (pc := 63) hS fX8_37 dX8_ofWalker_63 rfl rfl ?_
    refine x_iload_n (pc := 66) (i := 1) dX8_ofWalker_66 rfl rfl ?_
    refine x_aldN (pc := 67) hS dX8_ofWalker_67 rfl (by omega) (by decide) ?_
    refine x_ri (pc := 68) dX8_ofWalker_68 rfl rfl ?_
    exact ⟨by simp_all [pick6], rfl⟩
  by_cases h11_3 : x = 3
  · rw [h11_3]
    refine x_tableIn (pc := 11) (tgt := 69) dX8_ofWalker_11 (by decide) (by decide) rfl (by decide) ?_
    refine x_aload_n (pc := 69) (i := 0) dX8_ofWalker_69 rfl rfl ?_
    refine x_getR (pc := 70) hS fX8_40 dX8_ofWalker_70 rfl rfl ?_
    refine x_iload_n (pc := 73) (i := 1) dX8_ofWalker_73 rfl rfl ?_
    refine x_aldN (pc := 74) hS dX8_ofWalker_74 rfl (by omega) (by decide) ?_
    refine x_ri (pc := 75) dX8_ofWalker_75 rfl rfl ?_
    exact ⟨by simp_all [pick6], rfl⟩
  by_cases h11_4 : x = 4
  · rw [h11_4]
    refine x_tableIn (pc := 11) (tgt := 76) dX8_ofWalker_11 (by decide) (by decide) rfl (by decide) ?_
    refine x_aload_n (pc := 76) (i := 0) dX8_ofWalker_76 rfl rfl ?_
    refine x_getR (pc := 77) hS fX8_43 dX8_ofWalker_77 rfl rfl ?_
    refine x_iload_n (pc := 80) (i := 1) dX8_ofWalker_80 rfl rfl ?_
    refine x_aldN (pc := 81) hS dX8_ofWalker_81 rfl (by omega) (by decide) ?_
    refine x_ri (pc := 82) dX8_ofWalker_82 rfl rfl ?_
    exact ⟨by simp_all [pick6], rfl⟩
  by_cases h11_5 : x = 5
  · rw [h11_5]
    refine x_tableIn (pc := 11) (tgt := 83) dX8_ofWalker_11 (by decide) (by decide) rfl (by decide) ?_
    refine x_aload_n (pc := 83) (i := 0) dX8_ofWalker_83 rfl rfl ?_
    refine x_getR (pc := 84) hS fX8_40 dX8_ofWalker_84 rfl rfl ?_
    refine x_iload_n (pc := 87) (i := 1) dX8_ofWalker_87 rfl rfl ?_
    refine x_aldN (pc := 88) hS dX8_ofWalker_88 rfl (by omega) (by decide) ?_
    refine x_bipush (pc := 89) (v := (-9)) dX8_ofWalker_89 (by decide) ?_
    refine x_icmp_ne (pc := 91) (tgt := 99) dX8_ofWalker_91 (by decide) (fun h91 => ?_) (fun h91 => ?_)
    · refine x_aload_n (pc := 99) (i := 0) dX8_ofWalker_99 rfl rfl ?_
      refine x_getR (pc := 100) hS fX8_40 dX8_ofWalker_100 rfl rfl ?_
      refine x_iload_n (pc := 103) (i := 1) dX8_ofWalker_103 rfl rfl ?_
      refine x_ss (pc := 104) (As := [_, _]) rfl lX8_164 dX8_ofWalker_104 rfl (Nat.le_of_ble_eq_true rfl) (c_X8_dreamOf_55 hS (by omega)) ?_
      rintro _ _ ⟨rfl, hq⟩
      obtain rfl := hq.symm
      refine x_pushI ?_
      refine x_ri (pc := 107) dX8_ofWalker_107 rfl rfl ?_
      exact ⟨by simp_all [pick6], rfl⟩
    · refine x_bipush (pc := 94) (v := (-9)) dX8_ofWalker_94 (by decide) ?_
      refine x_goto (pc := 96) (tgt := 107) dX8_ofWalker_96 (by decide) ?_
      refine x_ri (pc := 107) dX8_ofWalker_107 rfl rfl ?_
      exact ⟨by simp_all [pick6], rfl⟩
  refine x_tableOut (pc := 11) (tgt := 108) dX8_ofWalker_11 (sw_out6 h11_0 h11_1 h11_2 h11_3 h11_4 h11_5) (by decide) ?_
  refine x_bipush (pc := 108) (v := (-2)) dX8_ofWalker_108 (by decide) ?_
  refine x_ri (pc := 110) dX8_ofWalker_110 rfl rfl ?_
  exact ⟨by simp_all [pick6], rfl⟩
/-- a walker lodges, or is nowhere -/
theorem lo_or {nb nw : Nat} {x : Int32} {me pl re lo : Nat → Int32} (hW : WalOK nb nw me pl re lo) (hx : x.toInt = (nb : Int)) (hnb : nb ≤ 5) {j : Nat} (hj : j < nw) : (lo j = -9 ∧ ¬ inB x lo j) ∨ (¬ lo j = -9 ∧ inB x lo j) := by
  rcases (hW j hj).2.2.2 with h | ⟨b, hb, h⟩
  · exact Or.inl ⟨h, fun q => absurd q.1 (by rw [h]; decide)⟩
  · refine Or.inr ⟨?_, ?_⟩
    · rw [h, i_eq, nI_toInt (by omega), il_m9]; omega
    · rw [inB, h, i_le, i_lt, nI_toInt (by omega), hx, il_0]; omega
theorem both_ofWalker {w : mW} (hI : Inv w) (b x : Int32) : Both kX7_ofWalker kX8_ofWalker [.int b, .int x] w := by
  intro d
  obtain ⟨hS, nb, nw, nr, hD, hR, hSI, hT⟩ := id hI; obtain ⟨h1, h2, h3, tb, tw, hB, hW, ⟨e1, e2, e3⟩, f8, f9, f10, f11, f12, f13, f14, f15, f16⟩ := id hD
  by_cases hb : 0 ≤ b ∧ b < fld w 7 1
  · obtain ⟨j, hj, rfl⟩ := in_nI tw (by omega) hb
    refine mC.mono (c_X7_ofWalker (d := d + 18) hS tw h2 hj) ?_
    rintro _ _ ⟨rfl, hq⟩; obtain rfl := hq.symm
    refine mC.mono (c_X8_ofWalker (d := d + 18) hS (by rw [e2]; exact tw) h2 hj) ?_
    rintro _ _ ⟨rfl, hq⟩; obtain rfl := hq.symm
    refine ⟨?_, hI⟩
    rw [f12, f13, f14, f15, f16]
    rcases lo_or hW tb h1 hj with ⟨g1, g2⟩ | ⟨g1, g2⟩
    · rw [if_pos g1, if_neg g2]
    · rw [if_neg g1, if_pos g2]
  · refine mC.mono (c_X7_ofWalker_no (d := d + 19) hS hb) ?_
    rintro _ _ ⟨rfl, hq⟩; obtain rfl := hq.symm
    refine mC.mono (c_X8_ofWalker_no (d := d + 19) hS (by rw [e2]; exact hb)) ?_
    rintro _ _ ⟨rfl, hq⟩; obtain rfl := hq.symm
    exact ⟨rfl, hI⟩
def pick5 (x a0 a1 a2 a3 a4 : Int32) : Int32 := if x = 0 then a0 else if x = 1 then a1 else if x = 2 then a2 else if x = 3 then a3 else if x = 4 then a4 else -2
theorem c_X7_many {d : Nat} {w : mW} {x : Int32} {nw : Nat} (hS : Shape w) (tw : (fld w 7 1).toInt = (nw : Int)) (hnw : nw ≤ 5) : mC (d + 2) kX7_many [.ref 0, .int x] w (fun r w' => r = some (.int (pick5 x (fld w 7 0) (fld w 7 1) (fld w 7 2) (nI (cntN (inP (arr w 15) (fld w 7 0)) nw)) (fld w 40 3))) ∧ w' = w) := by
  refine mC.of (L := [_, _]) okX7_many 0 rfl rfl ?_
  refine x_iload_n (pc := 0) (i := 1) dX7_many_0 rfl rfl ?_
  by_cases h1_0 : x = 0
  · rw [h1_0]
    refine x_tableIn (pc := 1) (tgt := 36) dX7_many_1 (by decide) (by decide) rfl (by decide) ?_
    refine x_aload_n (pc := 36) (i := 0) dX7_many_36 rfl rfl ?_
    refine x_getR (pc := 37) hS fX7_28 dX7_many_37 rfl rfl ?_
    refine x_getI (pc := 40) hS fX7_97 dX7_many_40 rfl rfl ?_
    refine x_ri (pc := 43) dX7_many_43 rfl rfl ?_
    exact ⟨by simp_all [pick5], rfl⟩
  by_cases h1_1 : x = 1
  · rw [h1_1]
    refine x_tableIn (pc := 1) (tgt := 44) dX7_many_1 (by decide) (by decide) rfl (by decide) ?_
    refine x_aload_n (pc := 44) (i := 0) dX7_many_44 rfl rfl ?_
    refine x_getR (pc := 45) hS fX7_28 dX7_many_45 rfl rfl ?_
    refine x_getI (pc := 48) hS fX7_191 dX7_many_48 rfl rfl ?_
    refine x_ri (pc := 51) dX7_many_51 rfl rfl ?_
    exact ⟨by simp_all [pick5], rfl⟩
  by_cases h1_2 : x = 2
  · rw [h1_2]
    refine x_tableIn (pc := 1) (tgt := 52) dX7_many_1 (by decide) (by decide) rfl (by decide) ?_
    refine x_aload_n (pc := 52) (i := 0) dX7_many_52 rfl rfl ?_
    refine x_getR (pc := 53) hS fX7_28 dX7_many_53 rfl rfl ?_
    refine x_getI (pc := 56) hS fX7_273 dX7_many_56 rfl rfl ?_
    refine x_ri (pc := 59) dX7_many_59 rfl rfl ?_
    exact ⟨by simp_all [pick5], rfl⟩
  by_cases h1_3 : x = 3
  · rw [h1_3]
    refine x_tableIn (pc := 1) (tgt := 60) dX7_many_1 (by decide) (by decide) rfl (by decide) ?_
    refine x_aload_n (pc := 60) (i := 0) dX7_many_60 rfl rfl ?_
    refine x_getR (pc := 61) hS fX7_28 dX7_many_61 rfl rfl ?_
    refine x_vs (pc := 64) (As := []) rfl hS lX7_276 dX7_many_64 rfl rfl (Nat.le_of_ble_eq_true rfl) (c_X0_allLodgers_7 hS tw hnw) ?_
    rintro _ _ ⟨rfl, hq⟩
    obtain rfl := hq.symm
    refine x_pushI ?_
    refine x_ss (pc := 67) (As := [_]) rfl lX7_148 dX7_many_67 rfl (Nat.le_of_ble_eq_true rfl) (c_bitCount (bits32 hnw)) ?_
    rintro _ _ ⟨rfl, hq⟩
    obtain rfl := hq.symm
    refine x_pushI ?_
    rw [popc_bits _ hnw]
    refine x_ri (pc := 70) dX7_many_70 rfl rfl ?_
    exact ⟨by simp_all [pick5], rfl⟩
  by_cases h1_4 : x = 4
  · rw [h1_4]
    refine x_tableIn (pc := 1) (tgt := 71) dX7_many_1 (by decide) (by decide) rfl (by decide) ?_
    refine x_aload_n (pc := 71) (i := 0) dX7_many_71 rfl rfl ?_
    refine x_getR (pc := 72) hS fX7_56 dX7_many_72 rfl rfl ?_
    refine x_getI (pc := 75) hS fX7_94 dX7_many_75 rfl rfl ?_
    refine x_ri (pc := 78) dX7_many_78 rfl rfl ?_
    exact ⟨by simp_all [pick5], rfl⟩
  refine x_tableOut (pc := 1) (tgt := 79) dX7_many_1 (sw_out5 h1_0 h1_1 h1_2 h1_3 h1_4) (by decide) ?_
  refine x_bipush (pc := 79) (v := (-2)) dX7_many_79 (by decide) ?_
  refine x_ri (pc := 81) dX7_many_81 rfl rfl ?_
  exact ⟨by simp_all [pick5], rfl⟩
theorem c_X8_many {d : Nat} {w : mW} {x : Int32} {nw : Nat} (hS : Shape w) (tw : (fld w 44 6).toInt = (nw : Int)) (hnw : nw ≤ 5) : mC (d + 2) kX8_many [.ref 44, .int x] w (fun r w' => r = some (.int (pick5 x (fld w 44 5) (fld w 44 6) (fld w 44 7) (nI (cntN (someP (arr w 55)) nw)) (fld w 44 32))) ∧ w' = w) := by
  refine mC.of (L := [_, _]) okX8_many 0 rfl rfl ?_
  refine x_iload_n (pc := 0) (i := 1) dX8_many_0 rfl rfl ?_
  by_cases h1_0 : x = 0
  · rw [h1_0]
    refine x_tableIn (pc := 1) (tgt := 36) dX8_many_1 (by decide) (by decide) rfl (by decide) ?_
    refine x_aload_n (pc := 36) (i := 0) dX8_many_36 rfl rfl ?_
    refine x_getI (pc := 37) hS fX8_92 dX8_many_37 rfl rfl ?_
    refine x_ri (pc := 40) dX8_many_40 rfl rfl ?_
    exact ⟨by simp_all [pick5], rfl⟩
  by_cases h1_1 : x = 1
  · rw [h1_1]
    refine x_tableIn (pc := 1) (tgt := 41) dX8_many_1 (by decide) (by decide) rfl (by decide) ?_
    refine x_aload_n (pc := 41) (i := 0) dX8_many_41 rfl rfl ?_
    refine x_getI (pc := 42) hS fX8_95 dX8_many_42 rfl rfl ?_
    refine x_ri (pc := 45) dX8_many_45 rfl rfl ?_
    exact ⟨by simp_all [pick5], rfl⟩
  by_cases h1_2 : x = 2
  · rw [h1_2]
    refine x_tableIn (pc := 1) (tgt := 46) dX8_many_1 (by decide) (by decide) rfl (by decide) ?_
    refine x_aload_n (pc := 46) (i := 0) dX8_many_46 rfl rfl ?_
    refine x_getI (pc := 47) hS fX8_128 dX8_many_47 rfl rfl ?_
    refine x_ri (pc := 50) dX8_many_50 rfl rfl ?_
    exact ⟨by simp_all [pick5], rfl⟩
  by_cases h1_3 : x = 3
  · rw [h1_3]
    refine x_tableIn (pc := 1) (tgt := 51) dX8_many_1 (by decide) (by decide) rfl (by decide) ?_
    refine x_aload_n (pc := 51) (i := 0) dX8_many_51 rfl rfl ?_
    refine x_vs (pc := 52) (As := []) rfl hS lX8_205 dX8_many_52 rfl rfl (Nat.le_of_ble_eq_true rfl) (c_X8_whoLodges hS tw hnw) ?_
    rintro _ _ ⟨rfl, hq⟩
    obtain rfl := hq.symm
    refine x_pushI ?_
    refine x_ss (pc := 55) (As := [_]) rfl lX8_174 dX8_many_55 rfl (Nat.le_of_ble_eq_true rfl) (c_X8_size (bits32 hnw)) ?_
    rintro _ _ ⟨rfl, hq⟩
    obtain rfl := hq.symm
    refine x_pushI ?_
    rw [popc_bits _ hnw]
    refine x_ri (pc := 58) dX8_many_58 rfl rfl ?_
    exact ⟨by simp_all [pick5], rfl⟩
  by_cases h1_4 : x = 4
  · rw [h1_4]
    refine x_tableIn (pc := 1) (tgt := 59) dX8_many_1 (by decide) (by decide) rfl (by decide) ?_
    refine x_aload_n (pc := 59) (i := 0) dX8_many_59 rfl rfl ?_
    refine x_getI (pc := 60) hS fX8_131 dX8_many_60 rfl rfl ?_
    refine x_ri (pc := 63) dX8_many_63 rfl rfl ?_
    exact ⟨by simp_all [pick5], rfl⟩
  refine x_tableOut (pc := 1) (tgt := 64) dX8_many_1 (sw_out5 h1_0 h1_1 h1_2 h1_3 h1_4) (by decide) ?_
  refine x_bipush (pc := 64) (v := (-2)) dX8_many_64 (by decide) ?_
  refine x_ri (pc := 66) dX8_many_66 rfl rfl ?_
  exact ⟨by simp_all [pick5], rfl⟩
theorem cntN_congr {p q : Nat → Bool} : ∀ {n : Nat}, (∀ j, j < n → p j = q j) → cntN p n = cntN q n
  | 0, _ => rfl
  | n + 1, h => by unfold cntN; rw [cntN_congr (fun j hj => h j (by omega)), h n (by omega)]
theorem bitsN_congr {p q : Nat → Bool} : ∀ {n : Nat}, (∀ j, j < n → p j = q j) → bitsN p n = bitsN q n
  | 0, _ => rfl
  | n + 1, h => by unfold bitsN; rw [bitsN_congr (fun j hj => h j (by omega)), h n (by omega)]
theorem lo_P {nb nw : Nat} {x : Int32} {me pl re lo : Nat → Int32} (hW : WalOK nb nw me pl re lo) (hx : x.toInt = (nb : Int)) (hnb : nb ≤ 5) : ∀ j, j < nw → someP lo j = inP lo x j := by
  intro j hj
  rcases lo_or hW hx hnb hj with ⟨g1, g2⟩ | ⟨g1, g2⟩
  · simp only [someP, inP, g1, decide_not]; rw [inB, g1] at g2; simp [g2]
  · simp only [someP, inP, g1, decide_not]; simp only [inB] at g2; simp [g2]
theorem both_many {w : mW} (hI : Inv w) (x : Int32) : Both kX7_many kX8_many [.int x] w := by
  intro d
  obtain ⟨hS, nb, nw, nr, hD, hR, hSI, hT⟩ := id hI; obtain ⟨h1, h2, h3, tb, tw, hB, hW, ⟨e1, e2, e3⟩, f8, f9, f10, f11, f12, f13, f14, f15, f16⟩ := id hD
  refine mC.mono (c_X7_many (d := d + 18) hS tw h2) ?_
  rintro _ _ ⟨rfl, hq⟩; obtain rfl := hq.symm
  refine mC.mono (c_X8_many (d := d + 18) hS (by rw [e2]; exact tw) h2) ?_
  rintro _ _ ⟨rfl, hq⟩; obtain rfl := hq.symm
  refine ⟨?_, hI⟩
  rw [e1, e2, e3, f15, hR.2.2.2.1, cntN_congr (lo_P hW tb h1)]
theorem c_X7_trace {d : Nat} {w : mW} (hS : Shape w) : mC d kX7_trace [.ref 0] w (fun r w' => r = some (.int (fld w 0 7)) ∧ w' = w) := by
  refine mC.of (L := [_]) okX7_trace 0 rfl rfl ?_
  refine x_aload_n (pc := 0) (i := 0) dX7_trace_0 rfl rfl ?_
  refine x_getI (pc := 1) hS fX7_60 dX7_trace_1 rfl rfl ?_
  refine x_ri (pc := 4) dX7_trace_4 rfl rfl ?_
  exact ⟨rfl, rfl⟩
theorem c_X8_trace {d : Nat} {w : mW} (hS : Shape w) : mC d kX8_trace [.ref 44] w (fun r w' => r = some (.int (fld w 44 1)) ∧ w' = w) := by
  refine mC.of (L := [_]) okX8_trace 0 rfl rfl ?_
  refine x_aload_n (pc := 0) (i := 0) dX8_trace_0 rfl rfl ?_
  refine x_getI (pc := 1) hS fX8_249 dX8_trace_1 rfl rfl ?_
  refine x_ri (pc := 4) dX8_trace_4 rfl rfl ?_
  exact ⟨rfl, rfl⟩
theorem c_X7_fault {d : Nat} {w : mW} (hS : Shape w) : mC d kX7_fault [.ref 0] w (fun r w' => r = some (.int (fld w 0 8)) ∧ w' = w) := by
  refine mC.of (L := [_]) okX7_fault 0 rfl rfl ?_
  refine x_aload_n (pc := 0) (i := 0) dX7_fault_0 rfl rfl ?_
  refine x_getI (pc := 1) hS fX7_64 dX7_fault_1 rfl rfl ?_
  refine x_ri (pc := 4) dX7_fault_4 rfl rfl ?_
  exact ⟨rfl, rfl⟩
theorem c_X8_fault {d : Nat} {w : mW} (hS : Shape w) : mC d kX8_fault [.ref 44] w (fun r w' => r = some (.int (fld w 44 0)) ∧ w' = w) := by
  refine mC.of (L := [_]) okX8_fault 0 rfl rfl ?_
  refine x_aload_n (pc := 0) (i := 0) dX8_fault_0 rfl rfl ?_
  refine x_getI (pc := 1) hS fX8_82 dX8_fault_1 rfl rfl ?_
  refine x_ri (pc := 4) dX8_fault_4 rfl rfl ?_
  exact ⟨rfl, rfl⟩
theorem both_trace {w : mW} (hI : Inv w) : Both kX7_trace kX8_trace [] w := by
  intro d
  obtain ⟨hS, nb, nw, nr, hD, hR, hSI, hT⟩ := id hI; obtain ⟨h1, h2, h3, tb, tw, hB, hW, ⟨e1, e2, e3⟩, f8, f9, f10, f11, f12, f13, f14, f15, f16⟩ := id hD
  refine mC.mono (c_X7_trace hS) ?_
  rintro _ _ ⟨rfl, hq⟩; obtain rfl := hq.symm
  refine mC.mono (c_X8_trace hS) ?_
  rintro _ _ ⟨rfl, hq⟩; obtain rfl := hq.symm
  exact ⟨by rw [hT.2], hI⟩
theorem both_fault {w : mW} (hI : Inv w) : Both kX7_fault kX8_fault [] w := by
  intro d
  obtain ⟨hS, nb, nw, nr, hD, hR, hSI, hT⟩ := id hI; obtain ⟨h1, h2, h3, tb, tw, hB, hW, ⟨e1, e2, e3⟩, f8, f9, f10, f11, f12, f13, f14, f15, f16⟩ := id hD
  refine mC.mono (c_X7_fault hS) ?_
  rintro _ _ ⟨rfl, hq⟩; obtain rfl := hq.symm
  refine mC.mono (c_X8_fault hS) ?_
  rintro _ _ ⟨rfl, hq⟩; obtain rfl := hq.symm
  exact ⟨by rw [hT.1], hI⟩

