-- housed, ploughed
def hAx (k nb nw mo le : Int32) (be : Nat → Int32) : Int32 := if k = -2 then mo else if k = -1 then le else if (0 ≤ k ∧ k < nw) ∧ (0 ≤ be k.toNatClampNeg ∧ be k.toNatClampNeg < nb) then be k.toNatClampNeg else -9
theorem c_X7_housed_no {d : Nat} {w : mW} {k : Int32} (hS : Shape w) (h : ¬ ((-2 ≤ k ∧ k < 5) ∧ 0 < fld w 7 0)) : mC (d + 1) kX7_housed [.ref 0, .int k] w (fun r w' => r = some (.int (if -2 ≤ k ∧ k < 5 then -3 else -2)) ∧ w' = w) := by
  refine mC.of (L := [_, _]) okX7_housed 0 rfl rfl ?_
  refine x_iload_n (pc := 0) (i := 1) dX7_housed_0 rfl rfl ?_
  refine x_bipush (pc := 1) (v := (-2)) dX7_housed_1 (by decide) ?_
  refine x_icmp_lt (pc := 3) (tgt := 11) dX7_housed_3 (by decide) (fun h3 => ?_) (fun h3 => ?_)
  · refine x_bipush (pc := 11) (v := (-2)) dX7_housed_11 (by decide) ?_
    refine x_ri (pc := 13) dX7_housed_13 rfl rfl ?_
    exact ⟨by rw [if_neg (fun z => by first | exact absurd h3 (Int32.not_lt.mpr z.1) | exact absurd z.2 h8)], rfl⟩
  · refine x_iload_n (pc := 6) (i := 1) dX7_housed_6 rfl rfl ?_
    refine x_iconst (pc := 7) (v := 5) dX7_housed_7 (by decide) ?_
    refine x_icmp_lt (pc := 8) (tgt := 14) dX7_housed_8 (by decide) (fun h8 => ?_) (fun h8 => ?_)
    · refine x_aload_n (pc := 14) (i := 0) dX7_housed_14 rfl rfl ?_
      refine x_getR (pc := 15) hS fX7_28 dX7_housed_15 rfl rfl ?_
      refine x_vs (pc := 18) (As := []) rfl hS lX7_156 dX7_housed_18 rfl rfl (Nat.le_of_ble_eq_true rfl) (c_X0_isThere_7 hS) ?_
      rintro _ _ ⟨rfl, hq⟩
      obtain rfl := hq.symm
      refine x_pushI ?_
      refine x_if_ne (pc := 21) (tgt := 27) dX7_housed_21 (by decide) (fun h21 => ?_) (fun h21 => ?_)
      · exact absurd ⟨⟨Int32.not_lt.mp h3, h8⟩, b2_n0.mp h21⟩ h
      · refine x_bipush (pc := 24) (v := (-3)) dX7_housed_24 (by decide) ?_
        refine x_ri (pc := 26) dX7_housed_26 rfl rfl ?_
        exact ⟨by rw [if_pos ⟨Int32.not_lt.mp h3, h8⟩], rfl⟩
    · refine x_bipush (pc := 11) (v := (-2)) dX7_housed_11 (by decide) ?_
      refine x_ri (pc := 13) dX7_housed_13 rfl rfl ?_
      exact ⟨by rw [if_neg (fun z => by first | exact absurd h3 (Int32.not_lt.mpr z.1) | exact absurd z.2 h8)], rfl⟩
theorem c_X7_housed {d : Nat} {w : mW} {k : Int32} {nb nw : Nat} {pN H : Nat → Nat} {ok : Nat → Nat → Bool} (hS0 : Shape w) (tb : (fld w 7 0).toInt = (nb : Int)) (hnb : nb ≤ 5) (hb0 : 0 < nb) (tw : (fld w 7 1).toInt = (nw : Int)) (hnw : nw ≤ 5) (hpe : ∀ b, b < nb → arr w 10 b = nI (pN b) ∧ pN b ≤ 9) (hH : ∀ b, b < nb → holdsE (arr w 8 b) (arr w 9 b) = nI (H b) ∧ H b ≤ 8) (hok : ∀ i, i < nw → ∀ b, b < nb → (ok i b = true ↔ ¬ nI b = -9 ∧ suitE (arr w 12) (arr w 13) (arr w 14) (arr w 10) (arr w 11) i b)) (hk : -2 ≤ k ∧ k < 5) : mC (d + 11) kX7_housed [.ref 0, .int k] w (fun r w' => ∃ row be left mo le, hoX nw (enum (nb + 1) (hF nb nw pN H ok) nw 0 (fun _ => 0) none) mo le be ∧ r = some (.int (hAx k (fld w 7 0) (fld w 7 1) mo le be)) ∧ w' = xHW w row be left mo le) := by
  have hs := c_X1_search (d := d) (wo := -9) hS0 tb hnb tw hnw hpe hH hok
  have hS := hS0
  refine mC.of (L := [_, _]) okX7_housed 0 rfl rfl ?_
  refine x_iload_n (pc := 0) (i := 1) dX7_housed_0 rfl rfl ?_
  refine x_bipush (pc := 1) (v := (-2)) dX7_housed_1 (by decide) ?_
  refine x_icmp_lt (pc := 3) (tgt := 11) dX7_housed_3 (by decide) (fun h3 => absurd h3 (by exact Int32.not_lt.mpr hk.1)) (fun h3 => ?_)
  refine x_iload_n (pc := 6) (i := 1) dX7_housed_6 rfl rfl ?_
  refine x_iconst (pc := 7) (v := 5) dX7_housed_7 (by decide) ?_
  refine x_icmp_lt (pc := 8) (tgt := 14) dX7_housed_8 (by decide) (fun h8 => ?_) (fun h8 => absurd h8 (by exact not_not_intro hk.2))
  refine x_aload_n (pc := 14) (i := 0) dX7_housed_14 rfl rfl ?_
  refine x_getR (pc := 15) hS fX7_28 dX7_housed_15 rfl rfl ?_
  refine x_vs (pc := 18) (As := []) rfl hS lX7_156 dX7_housed_18 rfl rfl (Nat.le_of_ble_eq_true rfl) (c_X0_isThere_7 hS) ?_
  rintro _ _ ⟨rfl, hq⟩
  obtain rfl := hq.symm
  refine x_pushI ?_
  refine x_if_ne (pc := 21) (tgt := 27) dX7_housed_21 (by decide) (fun h21 => ?_) (fun h21 => absurd h21 (by rw [b2_n0, i_lt, il_0, tb]; omega))
  refine x_aload_n (pc := 27) (i := 0) dX7_housed_27 rfl rfl ?_
  refine x_getR (pc := 28) hS fX7_42 dX7_housed_28 rfl rfl ?_
  refine x_aload_n (pc := 31) (i := 0) dX7_housed_31 rfl rfl ?_
  refine x_getR (pc := 32) hS fX7_28 dX7_housed_32 rfl rfl ?_
  refine x_bipush (pc := 35) (v := (-9)) dX7_housed_35 (by decide) ?_
  refine x_vs (pc := 37) (As := [_, _]) rfl hS lX7_175 dX7_housed_37 rfl rfl (Nat.le_of_ble_eq_true rfl) hs ?_
  rintro _ _ ⟨rfl, row, be, left, mo, le, hx, hq⟩
  obtain rfl := hq.symm
  have hS : Shape (xHW w row be left mo le) := xHW_S hS0
  refine x_pushV ?_
  refine x_iload_n (pc := 40) (i := 1) dX7_housed_40 rfl rfl ?_
  refine x_bipush (pc := 41) (v := (-2)) dX7_housed_41 (by decide) ?_
  refine x_icmp_ne (pc := 43) (tgt := 54) dX7_housed_43 (by decide) (fun h43 => ?_) (fun h43 => ?_)
  · refine x_iload_n (pc := 54) (i := 1) dX7_housed_54 rfl rfl ?_
    refine x_iconst (pc := 55) (v := (-1)) dX7_housed_55 (by decide) ?_
    refine x_icmp_ne (pc := 56) (tgt := 67) dX7_housed_56 (by decide) (fun h56 => ?_) (fun h56 => ?_)
    · refine x_aload_n (pc := 67) (i := 0) dX7_housed_67 rfl rfl ?_
      refine x_getR (pc := 68) hS fX7_28 dX7_housed_68 rfl rfl ?_
      refine x_iload_n (pc := 71) (i := 1) dX7_housed_71 rfl rfl ?_
      refine x_vs (pc := 72) (As := [_]) rfl hS lX7_123 dX7_housed_72 rfl rfl (Nat.le_of_ble_eq_true rfl) (c_X0_hasWalker_7 hS) ?_
      rintro _ _ ⟨rfl, hq⟩
      obtain rfl := hq.symm
      refine x_pushI ?_
      rw [xHW_f (by decide)]
      refine x_if_eq (pc := 75) (tgt := 109) dX7_housed_75 (by decide) (fun h75 => ?_) (fun h75 => ?_)
      · refine x_bipush (pc := 109) (v := (-9)) dX7_housed_109 (by decide) ?_
        refine x_ri (pc := 111) dX7_housed_111 rfl rfl ?_
        refine ⟨row, be, left, mo, le, hx, ?_, rfl⟩
        unfold hAx
        rw [if_neg h43, if_neg h56]
        first | (have z9 := b2_n0.mp h94; rw [cj, if_pos ⟨b2_n0.mp h75, z9⟩]) | (have z9 := b2_e0.mp h94; rw [cj, if_neg (fun z => z9 z.2)]) | (have z9 := b2_e0.mp h75; rw [if_neg (fun z => z9 z.1)])
      · obtain ⟨j, hj, rfl⟩ := in_nI tw (by omega) (b2_n0.mp h75)
        have cj : (nI j).toNatClampNeg = j := nI_clamp (by omega)
        refine x_aload_n (pc := 78) (i := 0) dX7_housed_78 rfl rfl ?_
        refine x_getR (pc := 79) hS fX7_28 dX7_housed_79 rfl rfl ?_
        refine x_aload_n (pc := 82) (i := 0) dX7_housed_82 rfl rfl ?_
        refine x_getR (pc := 83) hS fX7_42 dX7_housed_83 rfl rfl ?_
        refine x_getR (pc := 86) hS fX7_185 dX7_housed_86 rfl rfl ?_
        refine x_iload_n (pc := 89) (i := 1) dX7_housed_89 rfl rfl ?_
        refine x_aldN (pc := 90) hS dX7_housed_90 rfl (by omega) (by decide) ?_
        rw [xHW_32 hS0]
        refine x_vs (pc := 91) (As := [_]) rfl hS lX7_100 dX7_housed_91 rfl rfl (Nat.le_of_ble_eq_true rfl) (c_X0_hasBarrow_7 hS) ?_
        rintro _ _ ⟨rfl, hq⟩
        obtain rfl := hq.symm
        refine x_pushI ?_
        rw [xHW_f (by decide)]
        refine x_if_eq (pc := 94) (tgt := 109) dX7_housed_94 (by decide) (fun h94 => ?_) (fun h94 => ?_)
        · refine x_bipush (pc := 109) (v := (-9)) dX7_housed_109 (by decide) ?_
          refine x_ri (pc := 111) dX7_housed_111 rfl rfl ?_
          refine ⟨row, be, left, mo, le, hx, ?_, rfl⟩
          unfold hAx
          rw [if_neg h43, if_neg h56]
          first | (have z9 := b2_n0.mp h94; rw [cj, if_pos ⟨b2_n0.mp h75, z9⟩]) | (have z9 := b2_e0.mp h94; rw [cj, if_neg (fun z => z9 z.2)]) | (have z9 := b2_e0.mp h75; rw [if_neg (fun z => z9 z.1)])
        · refine x_aload_n (pc := 97) (i := 0) dX7_housed_97 rfl rfl ?_
          refine x_getR (pc := 98) hS fX7_42 dX7_housed_98 rfl rfl ?_
          refine x_getR (pc := 101) hS fX7_185 dX7_housed_101 rfl rfl ?_
          refine x_iload_n (pc := 104) (i := 1) dX7_housed_104 rfl rfl ?_
          refine x_aldN (pc := 105) hS dX7_housed_105 rfl (by omega) (by decide) ?_
          rw [xHW_32 hS0]
          refine x_goto (pc := 106) (tgt := 111) dX7_housed_106 (by decide) ?_
          refine x_ri (pc := 111) dX7_housed_111 rfl rfl ?_
          refine ⟨row, be, left, mo, le, hx, ?_, rfl⟩
          unfold hAx
          rw [if_neg h43, if_neg h56]
          first | (have z9 := b2_n0.mp h94; rw [cj, if_pos ⟨b2_n0.mp h75, z9⟩]) | (have z9 := b2_e0.mp h94; rw [cj, if_neg (fun z => z9 z.2)]) | (have z9 := b2_e0.mp h75; rw [if_neg (fun z => z9 z.1)])
    · refine x_aload_n (pc := 59) (i := 0) dX7_housed_59 rfl rfl ?_
      refine x_getR (pc := 60) hS fX7_42 dX7_housed_60 rfl rfl ?_
      refine x_getI (pc := 63) hS fX7_182 dX7_housed_63 rfl rfl ?_
      rw [xHW_4 hS0]
      refine x_ri (pc := 66) dX7_housed_66 rfl rfl ?_
      exact ⟨row, be, left, mo, le, hx, by unfold hAx; rw [if_neg h43, if_pos h56], rfl⟩
  · refine x_aload_n (pc := 46) (i := 0) dX7_housed_46 rfl rfl ?_
    refine x_getR (pc := 47) hS fX7_42 dX7_housed_47 rfl rfl ?_
    refine x_getI (pc := 50) hS fX7_179 dX7_housed_50 rfl rfl ?_
    rw [xHW_3 hS0]
    refine x_ri (pc := 53) dX7_housed_53 rfl rfl ?_
    exact ⟨row, be, left, mo, le, hx, by unfold hAx; rw [if_pos h43], rfl⟩
def hAm (k nb nw mo le : Int32) (be : Nat → Int32) : Int32 := if k = -2 then mo else if k < 0 then le else if (0 ≤ k ∧ k < nw) ∧ be k.toNatClampNeg < nb then be k.toNatClampNeg else -9
theorem c_X8_housed_no {d : Nat} {w : mW} {k : Int32} (hS : Shape w) (h : ¬ ((-2 ≤ k ∧ k ≤ 4) ∧ ¬ fld w 44 5 = 0)) : mC (d + 1) kX8_housed [.ref 44, .int k] w (fun r w' => r = some (.int (if -2 ≤ k ∧ k ≤ 4 then -3 else -2)) ∧ w' = w) := by
  refine mC.of (L := [_, _]) okX8_housed 0 rfl rfl ?_
  refine x_iload_n (pc := 0) (i := 1) dX8_housed_0 rfl rfl ?_
  refine x_bipush (pc := 1) (v := (-2)) dX8_housed_1 (by decide) ?_
  refine x_iconst (pc := 3) (v := 4) dX8_housed_3 (by decide) ?_
  refine x_ss (pc := 4) (As := [_, _, _]) rfl lX8_88 dX8_housed_4 rfl (Nat.le_of_ble_eq_true rfl) c_X8_within ?_
  rintro _ _ ⟨rfl, hq⟩
  obtain rfl := hq.symm
  refine x_pushI ?_
  refine x_if_ne (pc := 7) (tgt := 13) dX8_housed_7 (by decide) (fun h7 => ?_) (fun h7 => ?_)
  · refine x_aload_n (pc := 13) (i := 0) dX8_housed_13 rfl rfl ?_
    refine x_getI (pc := 14) hS fX8_92 dX8_housed_14 rfl rfl ?_
    refine x_if_ne (pc := 17) (tgt := 23) dX8_housed_17 (by decide) (fun h17 => ?_) (fun h17 => ?_)
    · exact absurd ⟨b2_n0.mp h7, h17⟩ h
    · refine x_bipush (pc := 20) (v := (-3)) dX8_housed_20 (by decide) ?_
      refine x_ri (pc := 22) dX8_housed_22 rfl rfl ?_
      exact ⟨by rw [if_pos (b2_n0.mp h7)], rfl⟩
  · refine x_bipush (pc := 10) (v := (-2)) dX8_housed_10 (by decide) ?_
    refine x_ri (pc := 12) dX8_housed_12 rfl rfl ?_
    exact ⟨by rw [if_neg (b2_e0.mp h7)], rfl⟩
theorem c_X8_housed {d : Nat} {w : mW} {k : Int32} {nb nw : Nat} {s : hSt} (hS0 : Shape w) (tb : (fld w 44 5).toInt = (nb : Int)) (hnb : nb ≤ 5) (hb0 : 0 < nb) (tw : (fld w 44 6).toInt = (nw : Int)) (hnw : nw ≤ 5) (hk : -2 ≤ k ∧ k ≤ 4) (hs : mC (d + 4) kX8_findHoused [.ref 44, .int (-9)] w (fun r w' => r = none ∧ ∃ row hin mo le, hoX nw s mo le hin ∧ w' = mHW w row hin mo le)) : mC (d + 5) kX8_housed [.ref 44, .int k] w (fun r w' => ∃ row hin mo le, hoX nw s mo le hin ∧ r = some (.int (hAm k (fld w 44 5) (fld w 44 6) mo le hin)) ∧ w' = mHW w row hin mo le) := by
  have hS := hS0
  refine mC.of (L := [_, _]) okX8_housed 0 rfl rfl ?_
  refine x_iload_n (pc := 0) (i := 1) dX8_housed_0 rfl rfl ?_
  refine x_bipush (pc := 1) (v := (-2)) dX8_housed_1 (by decide) ?_
  refine x_iconst (pc := 3) (v := 4) dX8_housed_3 (by decide) ?_
  refine x_ss (pc := 4) (As := [_, _, _]) rfl lX8_88 dX8_housed_4 rfl (Nat.le_of_ble_eq_true rfl) c_X8_within ?_
  rintro _ _ ⟨rfl, hq⟩
  obtain rfl := hq.symm
  refine x_pushI ?_
  refine x_if_ne (pc := 7) (tgt := 13) dX8_housed_7 (by decide) (fun h7 => ?_) (fun h7 => absurd h7 (by rw [b2_n0]; exact hk))
  refine x_aload_n (pc := 13) (i := 0) dX8_housed_13 rfl rfl ?_
  refine x_getI (pc := 14) hS fX8_92 dX8_housed_14 rfl rfl ?_
  refine x_if_ne (pc := 17) (tgt := 23) dX8_housed_17 (by decide) (fun h17 => ?_) (fun h17 => absurd h17 (by intro z; rw [z, il_0] at tb; omega))
  refine x_aload_n (pc := 23) (i := 0) dX8_housed_23 rfl rfl ?_
  refine x_bipush (pc := 24) (v := (-9)) dX8_housed_24 (by decide) ?_
  refine x_vs (pc := 26) (As := [_]) rfl hS lX8_228 dX8_housed_26 rfl rfl (Nat.le_of_ble_eq_true rfl) hs ?_
  rintro _ _ ⟨rfl, row, hin, mo, le, hx, hq⟩
  obtain rfl := hq.symm
  have hS : Shape (mHW w row hin mo le) := mHW_S hS0
  refine x_pushV ?_
  refine x_iload_n (pc := 29) (i := 1) dX8_housed_29 rfl rfl ?_
  refine x_if_ge (pc := 30) (tgt := 51) dX8_housed_30 (by decide) (fun h30 => ?_) (fun h30 => ?_)
  · refine x_aload_n (pc := 51) (i := 0) dX8_housed_51 rfl rfl ?_
    refine x_iload_n (pc := 52) (i := 1) dX8_housed_52 rfl rfl ?_
    refine x_vs (pc := 53) (As := [_]) rfl hS lX8_161 dX8_housed_53 rfl rfl (Nat.le_of_ble_eq_true rfl) (c_X8_isWalker hS) ?_
    rintro _ _ ⟨rfl, hq⟩
    obtain rfl := hq.symm
    refine x_pushI ?_
    rw [mHW_f (by decide) (by decide)]
    refine x_if_eq (pc := 56) (tgt := 81) dX8_housed_56 (by decide) (fun h56 => ?_) (fun h56 => ?_)
    · refine x_bipush (pc := 81) (v := (-9)) dX8_housed_81 (by decide) ?_
      refine x_ri (pc := 83) dX8_housed_83 rfl rfl ?_
      refine ⟨row, hin, mo, le, hx, ?_, rfl⟩
      unfold hAm
      rw [if_neg (fun z => by rw [z] at h30; exact absurd h30 (by decide)), if_neg (Int32.not_lt.mpr h30)]
      first | (have z9 := Int32.not_le.mp h69; rw [cj, if_pos ⟨b2_n0.mp h56, z9⟩]) | (have z9 := Int32.not_lt.mpr h69; rw [cj, if_neg (fun z => z9 z.2)]) | (have z9 := b2_e0.mp h56; rw [if_neg (fun z => z9 z.1)])
    · obtain ⟨j, hj, rfl⟩ := in_nI tw (by omega) (b2_n0.mp h56)
      have cj : (nI j).toNatClampNeg = j := nI_clamp (by omega)
      refine x_aload_n (pc := 59) (i := 0) dX8_housed_59 rfl rfl ?_
      refine x_getR (pc := 60) hS fX8_67 dX8_housed_60 rfl rfl ?_
      refine x_iload_n (pc := 63) (i := 1) dX8_housed_63 rfl rfl ?_
      refine x_aldN (pc := 64) hS dX8_housed_64 rfl (by omega) (by decide) ?_
      rw [mHW_64 hS0]
      refine x_aload_n (pc := 65) (i := 0) dX8_housed_65 rfl rfl ?_
      refine x_getI (pc := 66) hS fX8_92 dX8_housed_66 rfl rfl ?_
      rw [mHW_f (by decide) (by decide)]
      refine x_icmp_ge (pc := 69) (tgt := 81) dX8_housed_69 (by decide) (fun h69 => ?_) (fun h69 => ?_)
      · refine x_bipush (pc := 81) (v := (-9)) dX8_housed_81 (by decide) ?_
        refine x_ri (pc := 83) dX8_housed_83 rfl rfl ?_
        refine ⟨row, hin, mo, le, hx, ?_, rfl⟩
        unfold hAm
        rw [if_neg (fun z => by rw [z] at h30; exact absurd h30 (by decide)), if_neg (Int32.not_lt.mpr h30)]
        first | (have z9 := Int32.not_le.mp h69; rw [cj, if_pos ⟨b2_n0.mp h56, z9⟩]) | (have z9 := Int32.not_lt.mpr h69; rw [cj, if_neg (fun z => z9 z.2)]) | (have z9 := b2_e0.mp h56; rw [if_neg (fun z => z9 z.1)])
      · refine x_aload_n (pc := 72) (i := 0) dX8_housed_72 rfl rfl ?_
        refine x_getR (pc := 73) hS fX8_67 dX8_housed_73 rfl rfl ?_
        refine x_iload_n (pc := 76) (i := 1) dX8_housed_76 rfl rfl ?_
        refine x_aldN (pc := 77) hS dX8_housed_77 rfl (by omega) (by decide) ?_
        rw [mHW_64 hS0]
        refine x_goto (pc := 78) (tgt := 83) dX8_housed_78 (by decide) ?_
        refine x_ri (pc := 83) dX8_housed_83 rfl rfl ?_
        refine ⟨row, hin, mo, le, hx, ?_, rfl⟩
        unfold hAm
        rw [if_neg (fun z => by rw [z] at h30; exact absurd h30 (by decide)), if_neg (Int32.not_lt.mpr h30)]
        first | (have z9 := Int32.not_le.mp h69; rw [cj, if_pos ⟨b2_n0.mp h56, z9⟩]) | (have z9 := Int32.not_lt.mpr h69; rw [cj, if_neg (fun z => z9 z.2)]) | (have z9 := b2_e0.mp h56; rw [if_neg (fun z => z9 z.1)])
  · refine x_iload_n (pc := 33) (i := 1) dX8_housed_33 rfl rfl ?_
    refine x_bipush (pc := 34) (v := (-2)) dX8_housed_34 (by decide) ?_
    refine x_icmp_ne (pc := 36) (tgt := 46) dX8_housed_36 (by decide) (fun h36 => ?_) (fun h36 => ?_)
    · refine x_aload_n (pc := 46) (i := 0) dX8_housed_46 rfl rfl ?_
      refine x_getI (pc := 47) hS fX8_222 dX8_housed_47 rfl rfl ?_
      first | rw [mHW_30 hS0] | skip
      refine x_ri (pc := 50) dX8_housed_50 rfl rfl ?_
      refine ⟨row, hin, mo, le, hx, ?_, rfl⟩
      unfold hAm
      first | rw [if_pos h36] | rw [if_neg h36, if_pos (Int32.not_le.mp h30)]
    · refine x_aload_n (pc := 39) (i := 0) dX8_housed_39 rfl rfl ?_
      refine x_getI (pc := 40) hS fX8_212 dX8_housed_40 rfl rfl ?_
      rw [mHW_29 hS0]
      refine x_goto (pc := 43) (tgt := 50) dX8_housed_43 (by decide) ?_
      first | rw [mHW_30 hS0] | skip
      refine x_ri (pc := 50) dX8_housed_50 rfl rfl ?_
      refine ⟨row, hin, mo, le, hx, ?_, rfl⟩
      unfold hAm
      first | rw [if_pos h36] | rw [if_neg h36, if_pos (Int32.not_le.mp h30)]
theorem hAns_eq {nb nw : Nat} {nb32 nw32 k : Int32} {s : hSt} {mo le mo' le' : Int32} {be be' : Nat → Int32} (tw : nw32.toInt = (nw : Int)) (hnw : nw ≤ 5) (hk : -2 ≤ k) (hs : s ≠ none) (h : hoX nw s mo le be) (h' : hoX nw s mo' le' be') (hok : ∀ c p ρ, s = some (c, p, ρ) → ∀ i, i < nw → ρ i ≤ 10) : hAm k nb32 nw32 mo' le' be' = hAx k nb32 nw32 mo le be := by
  match s, h, h', hs, hok with
  | some (c, p, ρ), h, h', _, hok =>
    obtain ⟨a1, a2, a3⟩ := h
    obtain ⟨b1, b2, b3⟩ := h'
    unfold hAm hAx
    by_cases e1 : k = -2
    · rw [if_pos e1, if_pos e1, a1, b1]
    · rw [if_neg e1, if_neg e1]
      by_cases e2 : k = -1
      · rw [if_pos e2, if_pos (by rw [e2]; decide), a2, b2]
      · have e3 : ¬ k < 0 := by
          rw [i_le, il_m2] at hk
          rw [i_eq, il_m2] at e1
          rw [i_eq, il_m1] at e2
          rw [i_lt, il_0]; omega
        rw [if_neg e2, if_neg e3]
        by_cases e4 : 0 ≤ k ∧ k < nw32
        · obtain ⟨j, hj, rfl⟩ := in_nI tw (by omega) e4
          have cj : (nI j).toNatClampNeg = j := nI_clamp (by omega)
          have hr := hok c p ρ rfl j hj
          have e5 : (0 : Int32) ≤ nI (ρ j) := by rw [i_le, il_0, nI_toInt (by omega)]; omega
          rw [cj, a3 j hj, b3 j hj]
          by_cases e6 : nI (ρ j) < nb32
          · rw [if_pos ⟨e4, e6⟩, if_pos ⟨e4, e5, e6⟩]
          · rw [if_neg (fun z => e6 z.2), if_neg (fun z => e6 z.2.2)]
        · rw [if_neg (fun z => e4 z.1), if_neg (fun z => e4 z.1)]
def hRow (nb n : Nat) : hSt → Prop
  | none => True
  | some (_, _, ρ) => ∀ i, i < n → ρ i ≤ nb
theorem enum_row {nb n : Nat} {pN H : Nat → Nat} {ok : Nat → Nat → Bool} : ∀ {m j : Nat} {ρ : Nat → Nat} {s : hSt}, j + m = n → (∀ i, i < j → ρ i ≤ nb) → hRow nb n s → hRow nb n (enum (nb + 1) (hF nb n pN H ok) m j ρ s)
  | 0, j, ρ, s, h, e, hs => by
    show hRow nb n (hF nb n pN H ok ρ s)
    unfold hF
    split
    · intro i hi; unfold hTr; rw [if_pos hi]; exact e i (by omega)
    · exact hs
  | m + 1, j, ρ, s, h, e, hs => by
    refine foldN_pres hs (fun c hc s hs => enum_row (by omega) (fun i hi => ?_) hs)
    by_cases q : i = j
    · subst q; rw [ud_eq]; omega
    · rw [ud_ne q]; exact e i (by omega)
theorem nI_self {x : Int32} (h : 0 ≤ x.toInt) : x = nI x.toNatClampNeg := by
  rw [i_eq, nI_toInt]
  · rw [i_clamp]; omega
  · have := Int32.toInt_lt x; rw [i_clamp]; omega
theorem Inv.junkF {w w2 : mW} {A : List Nat} {F : List (Nat × Nat)} (hI : Inv w) (hS2 : Shape w2) (g : Gr A F w w2) (hA : ∀ a ∈ dA, a ∉ A) (hF : ∀ a ∈ dF, a ∉ F) (hA2 : ∀ a ∈ [41, 42, 43, 66, 67, 68], a ∉ A) (hF2 : ∀ a ∈ [(40, 3), (44, 32)], a ∉ F) (hA3 : ∀ a ∈ [2, 3, 4, 45, 46, 47], a ∉ A) (hF3 : ∀ a ∈ [(44, 0), (0, 8), (44, 1), (0, 7)], a ∉ F) : Inv w2 := by
  obtain ⟨hS, nb, nw, nr, hD, hR, hSI, hT⟩ := hI
  exact ⟨hS2, nb, nw, nr, hD.gr g hA hF, hR.gr g hA2 hF2, hSI.gr g hA3, hT.gr g hF3⟩
theorem xHW_gr {w : mW} {row be left : Nat → Int32} {mo le : Int32} : Gr [31, 32, 33, 63, 64] [(30, 3), (30, 4), (44, 29), (44, 30)] w (xHW w row be left mo le) := ((((Gr.rf.stA (by decide) _).stA (by decide) _).stA (by decide) _).stF (by decide) _).stF (by decide) _
theorem mHW_gr {w : mW} {row hin : Nat → Int32} {mo le : Int32} : Gr [31, 32, 33, 63, 64] [(30, 3), (30, 4), (44, 29), (44, 30)] w (mHW w row hin mo le) := (((Gr.rf.stA (by decide) _).stA (by decide) _).stF (by decide) _).stF (by decide) _
theorem both_housed {w : mW} (hI : Inv w) (k : Int32) : Both kX7_housed kX8_housed [.int k] w := by
  intro d
  obtain ⟨hS, nb, nw, nr, hD, hR, hSI, hT⟩ := id hI; obtain ⟨h1, h2, h3, tb, tw, hB, hW, ⟨e1, e2, e3⟩, f8, f9, f10, f11, f12, f13, f14, f15, f16⟩ := id hD
  have e4 : (-2 ≤ k ∧ k < 5) ↔ (-2 ≤ k ∧ k ≤ 4) := by
    refine and_congr Iff.rfl ?_
    rw [i_lt, i_le, il_4, il_5]; omega
  by_cases hk : (-2 ≤ k ∧ k < 5) ∧ 0 < fld w 7 0
  · obtain ⟨hk, hb0⟩ := hk
    have hb0 : 0 < nb := by rw [i_lt, il_0, tb] at hb0; omega
    have hpe : ∀ b, b < nb → arr w 10 b = nI (arr w 10 b).toNatClampNeg ∧ (arr w 10 b).toNatClampNeg ≤ 9 := fun b hb => ⟨nI_self (hB b hb).2.2.1.1, by have := (hB b hb).2.2.1; rw [i_clamp]; omega⟩
    have hH : ∀ b, b < nb → holdsE (arr w 8 b) (arr w 9 b) = nI (holdsE (arr w 8 b) (arr w 9 b)).toNatClampNeg ∧ (holdsE (arr w 8 b) (arr w 9 b)).toNatClampNeg ≤ 8 := fun b hb => by
      obtain ⟨H, q1, q2, q3⟩ := holds_H (hB b hb).1 (hB b hb).2.1
      rw [q3, nI_clamp (by omega)]; exact ⟨rfl, q2⟩
    refine mC.mono (c_X7_housed (d := d + 9) (pN := fun b => (arr w 10 b).toNatClampNeg) (H := fun b => (holdsE (arr w 8 b) (arr w 9 b)).toNatClampNeg) (ok := fun i b => decide (¬ nI b = -9 ∧ suitE (arr w 12) (arr w 13) (arr w 14) (arr w 10) (arr w 11) i b)) hS tb h1 hb0 tw h2 hpe hH (fun i _ b _ => decide_eq_true_iff) hk) ?_
    rintro _ w1 ⟨row, be, left, mo, le, hx, rfl, hq⟩
    have g : Gr [31, 32, 33, 63, 64] [(30, 3), (30, 4), (44, 29), (44, 30)] w w1 := by rw [hq]; exact xHW_gr
    have hS1 : Shape w1 := by rw [hq]; exact xHW_S hS
    have hf := c_X8_findHoused (d := d + 15) (w := w1) (wo := -9) (nb := nb) (nw := nw) (pN := fun b => (arr w 10 b).toNatClampNeg) (H := fun b => (holdsE (arr w 8 b) (arr w 9 b)).toNatClampNeg) (ok := fun i b => decide (¬ nI b = -9 ∧ suitE (arr w 12) (arr w 13) (arr w 14) (arr w 10) (arr w 11) i b)) hS1 (by rw [g.2 44 5 (by decide), e1]; exact tb) h1 (by rw [g.2 44 6 (by decide), e2]; exact tw) h2 (by rw [g.1 48 (by decide), f8]; exact fun b hb => (hB b hb).1) (by rw [g.1 48 (by decide), g.1 49 (by decide), f8, f9]; exact hH) (by rw [g.1 50 (by decide), f10]; exact hpe) (by rw [g.1 53 (by decide), f13]; exact fun i hi => (hW i hi).2.1) (by rw [g.1 51 (by decide), f11]; exact fun j hj => (hB j hj).2.2.2) (by rw [g.1 50 (by decide), g.1 51 (by decide), g.1 52 (by decide), g.1 53 (by decide), g.1 54 (by decide), f10, f11, f12, f13, f14]; exact fun i _ b _ => decide_eq_true_iff)
    rw [enum_all (by omega) hF_ext (fun _ => 0)] at hf
    refine mC.mono (c_X8_housed (d := d + 15) hS1 (by rw [g.2 44 5 (by decide), e1]; exact tb) h1 hb0 (by rw [g.2 44 6 (by decide), e2]; exact tw) h2 (e4.mp hk) hf) ?_
    rintro _ w2 ⟨row', hin, mo', le', hx', rfl, hq2⟩
    refine ⟨?_, hI.junkF (by rw [hq2]; exact mHW_S hS1) (g.tr (by rw [hq2]; exact mHW_gr)) (by decide) (by decide) (by decide) (by decide) (by decide) (by decide)⟩
    rw [g.2 44 5 (by decide), g.2 44 6 (by decide), e1, e2, hAns_eq (nb := nb) tw h2 hk.1 (enum_some (by omega) (fun i hi => absurd hi (Nat.not_lt_zero _))) hx hx' ?_]
    intro c p ρ hs i hi
    have hr := enum_row (nb := nb) (n := nw) (pN := fun b => (arr w 10 b).toNatClampNeg) (H := fun b => (holdsE (arr w 8 b) (arr w 9 b)).toNatClampNeg) (ok := fun i b => decide (¬ nI b = -9 ∧ suitE (arr w 12) (arr w 13) (arr w 14) (arr w 10) (arr w 11) i b)) (m := nw) (j := 0) (ρ := fun _ => 0) (s := none) (by omega) (fun i hi => absurd hi (Nat.not_lt_zero _)) trivial
    rw [hs] at hr
    have := hr i hi
    omega
  · refine mC.mono (c_X7_housed_no (d := d + 19) hS hk) ?_
    rintro _ _ ⟨rfl, hq⟩; obtain rfl := hq.symm
    refine mC.mono (c_X8_housed_no (d := d + 19) hS (by rw [e1]; exact fun z => hk ⟨e4.mpr z.1, by have z2 := z.2; rw [i_eq, il_0, tb] at z2; rw [i_lt, il_0, tb]; omega⟩)) ?_
    simp only [e4]
    rintro _ _ ⟨rfl, hq⟩; obtain rfl := hq.symm
    exact ⟨rfl, hI⟩
theorem c_X7_ploughed_no {d : Nat} {w : mW} {b : Int32} (hS : Shape w) (h : ¬ (0 ≤ b ∧ b < fld w 7 0)) : mC (d + 1) kX7_ploughed [.ref 0, .int b] w (fun r w' => r = some (.int (-1)) ∧ w' = w) := by
  refine mC.of (L := [_, _]) okX7_ploughed 0 rfl rfl ?_
  refine x_aload_n (pc := 0) (i := 0) dX7_ploughed_0 rfl rfl ?_
  refine x_getR (pc := 1) hS fX7_28 dX7_ploughed_1 rfl rfl ?_
  refine x_iload_n (pc := 4) (i := 1) dX7_ploughed_4 rfl rfl ?_
  refine x_vs (pc := 5) (As := [_]) rfl hS lX7_100 dX7_ploughed_5 rfl rfl (Nat.le_of_ble_eq_true rfl) (c_X0_hasBarrow_7 hS) ?_
  rintro _ _ ⟨rfl, hq⟩
  obtain rfl := hq.symm
  refine x_pushI ?_
  refine x_if_ne (pc := 8) (tgt := 13) dX7_ploughed_8 (by decide) (fun h8 => absurd h8 (by rw [b2_n0]; exact h)) (fun h8 => ?_)
  refine x_iconst (pc := 11) (v := (-1)) dX7_ploughed_11 (by decide) ?_
  refine x_ri (pc := 12) dX7_ploughed_12 rfl rfl ?_
  exact ⟨rfl, rfl⟩
theorem c_X7_ploughed {d : Nat} {w : mW} {b : Int32} {nw : Nat} {s : hSt} (hS0 : Shape w) (h : 0 ≤ b ∧ b < fld w 7 0) (hs : mC d kX1_search [.ref 30, .ref 7, .int b] w (fun r w' => r = none ∧ ∃ row be left mo le, hoX nw s mo le be ∧ w' = xHW w row be left mo le)) : mC (d + 1) kX7_ploughed [.ref 0, .int b] w (fun r w' => ∃ row be left mo le, hoX nw s mo le be ∧ r = some (.int mo) ∧ w' = xHW w row be left mo le) := by
  have hS := hS0
  refine mC.of (L := [_, _]) okX7_ploughed 0 rfl rfl ?_
  refine x_aload_n (pc := 0) (i := 0) dX7_ploughed_0 rfl rfl ?_
  refine x_getR (pc := 1) hS fX7_28 dX7_ploughed_1 rfl rfl ?_
  refine x_iload_n (pc := 4) (i := 1) dX7_ploughed_4 rfl rfl ?_
  refine x_vs (pc := 5) (As := [_]) rfl hS lX7_100 dX7_ploughed_5 rfl rfl (Nat.le_of_ble_eq_true rfl) (c_X0_hasBarrow_7 hS) ?_
  rintro _ _ ⟨rfl, hq⟩
  obtain rfl := hq.symm
  refine x_pushI ?_
  refine x_if_ne (pc := 8) (tgt := 13) dX7_ploughed_8 (by decide) (fun h8 => ?_) (fun h8 => absurd h8 (by rw [b2_n0]; exact h))
  refine x_aload_n (pc := 13) (i := 0) dX7_ploughed_13 rfl rfl ?_
  refine x_getR (pc := 14) hS fX7_42 dX7_ploughed_14 rfl rfl ?_
  refine x_aload_n (pc := 17) (i := 0) dX7_ploughed_17 rfl rfl ?_
  refine x_getR (pc := 18) hS fX7_28 dX7_ploughed_18 rfl rfl ?_
  refine x_iload_n (pc := 21) (i := 1) dX7_ploughed_21 rfl rfl ?_
  refine x_vs (pc := 22) (As := [_, _]) rfl hS lX7_175 dX7_ploughed_22 rfl rfl (Nat.le_of_ble_eq_true rfl) hs ?_
  rintro _ _ ⟨rfl, row, be, left, mo, le, hx, hq⟩
  obtain rfl := hq.symm
  have hS : Shape (xHW w row be left mo le) := xHW_S hS0
  refine x_pushV ?_
  refine x_aload_n (pc := 25) (i := 0) dX7_ploughed_25 rfl rfl ?_
  refine x_getR (pc := 26) hS fX7_42 dX7_ploughed_26 rfl rfl ?_
  refine x_getI (pc := 29) hS fX7_179 dX7_ploughed_29 rfl rfl ?_
  rw [xHW_3 hS0]
  refine x_ri (pc := 32) dX7_ploughed_32 rfl rfl ?_
  exact ⟨row, be, left, mo, le, hx, rfl, rfl⟩
theorem c_X8_ploughed_no {d : Nat} {w : mW} {b : Int32} (hS : Shape w) (h : ¬ (0 ≤ b ∧ b < fld w 44 5)) : mC (d + 1) kX8_ploughed [.ref 44, .int b] w (fun r w' => r = some (.int (-1)) ∧ w' = w) := by
  refine mC.of (L := [_, _]) okX8_ploughed 0 rfl rfl ?_
  refine x_aload_n (pc := 0) (i := 0) dX8_ploughed_0 rfl rfl ?_
  refine x_iload_n (pc := 1) (i := 1) dX8_ploughed_1 rfl rfl ?_
  refine x_vs (pc := 2) (As := [_]) rfl hS lX8_152 dX8_ploughed_2 rfl rfl (Nat.le_of_ble_eq_true rfl) (c_X8_isBarrow hS) ?_
  rintro _ _ ⟨rfl, hq⟩
  obtain rfl := hq.symm
  refine x_pushI ?_
  refine x_if_ne (pc := 5) (tgt := 10) dX8_ploughed_5 (by decide) (fun h5 => absurd h5 (by rw [b2_n0]; exact h)) (fun h5 => ?_)
  refine x_iconst (pc := 8) (v := (-1)) dX8_ploughed_8 (by decide) ?_
  refine x_ri (pc := 9) dX8_ploughed_9 rfl rfl ?_
  exact ⟨rfl, rfl⟩
theorem c_X8_ploughed {d : Nat} {w : mW} {b : Int32} {nw : Nat} {s : hSt} (hS0 : Shape w) (h : 0 ≤ b ∧ b < fld w 44 5) (hs : mC d kX8_findHoused [.ref 44, .int b] w (fun r w' => r = none ∧ ∃ row hin mo le, hoX nw s mo le hin ∧ w' = mHW w row hin mo le)) : mC (d + 1) kX8_ploughed [.ref 44, .int b] w (fun r w' => ∃ row hin mo le, hoX nw s mo le hin ∧ r = some (.int mo) ∧ w' = mHW w row hin mo le) := by
  have hS := hS0
  refine mC.of (L := [_, _]) okX8_ploughed 0 rfl rfl ?_
  refine x_aload_n (pc := 0) (i := 0) dX8_ploughed_0 rfl rfl ?_
  refine x_iload_n (pc := 1) (i := 1) dX8_ploughed_1 rfl rfl ?_
  refine x_vs (pc := 2) (As := [_]) rfl hS lX8_152 dX8_ploughed_2 rfl rfl (Nat.le_of_ble_eq_true rfl) (c_X8_isBarrow hS) ?_
  rintro _ _ ⟨rfl, hq⟩
  obtain rfl := hq.symm
  refine x_pushI ?_
  refine x_if_ne (pc := 5) (tgt := 10) dX8_ploughed_5 (by decide) (fun h5 => ?_) (fun h5 => absurd h5 (by rw [b2_n0]; exact h))
  refine x_aload_n (pc := 10) (i := 0) dX8_ploughed_10 rfl rfl ?_
  refine x_iload_n (pc := 11) (i := 1) dX8_ploughed_11 rfl rfl ?_
  refine x_vs (pc := 12) (As := [_]) rfl hS lX8_228 dX8_ploughed_12 rfl rfl (Nat.le_of_ble_eq_true rfl) hs ?_
  rintro _ _ ⟨rfl, row, hin, mo, le, hx, hq⟩
  obtain rfl := hq.symm
  have hS : Shape (mHW w row hin mo le) := mHW_S hS0
  refine x_pushV ?_
  refine x_aload_n (pc := 15) (i := 0) dX8_ploughed_15 rfl rfl ?_
  refine x_getI (pc := 16) hS fX8_212 dX8_ploughed_16 rfl rfl ?_
  rw [mHW_29 hS0]
  refine x_ri (pc := 19) dX8_ploughed_19 rfl rfl ?_
  exact ⟨row, hin, mo, le, hx, rfl, rfl⟩
theorem both_ploughed {w : mW} (hI : Inv w) (b : Int32) : Both kX7_ploughed kX8_ploughed [.int b] w := by
  intro d
  obtain ⟨hS, nb, nw, nr, hD, hR, hSI, hT⟩ := id hI; obtain ⟨h1, h2, h3, tb, tw, hB, hW, ⟨e1, e2, e3⟩, f8, f9, f10, f11, f12, f13, f14, f15, f16⟩ := id hD
  by_cases hb : 0 ≤ b ∧ b < fld w 7 0
  · have hpe : ∀ b, b < nb → arr w 10 b = nI (arr w 10 b).toNatClampNeg ∧ (arr w 10 b).toNatClampNeg ≤ 9 := fun b hb => ⟨nI_self (hB b hb).2.2.1.1, by have := (hB b hb).2.2.1; rw [i_clamp]; omega⟩
    have hH : ∀ b, b < nb → holdsE (arr w 8 b) (arr w 9 b) = nI (holdsE (arr w 8 b) (arr w 9 b)).toNatClampNeg ∧ (holdsE (arr w 8 b) (arr w 9 b)).toNatClampNeg ≤ 8 := fun b hb => by
      obtain ⟨H, q1, q2, q3⟩ := holds_H (hB b hb).1 (hB b hb).2.1
      rw [q3, nI_clamp (by omega)]; exact ⟨rfl, q2⟩
    have hs := c_X1_search (d := d + 9) (w := w) (wo := b) (pN := fun b => (arr w 10 b).toNatClampNeg) (H := fun b => (holdsE (arr w 8 b) (arr w 9 b)).toNatClampNeg) (ok := fun i c => decide (¬ nI c = b ∧ suitE (arr w 12) (arr w 13) (arr w 14) (arr w 10) (arr w 11) i c)) hS tb h1 tw h2 hpe hH (fun i _ b _ => decide_eq_true_iff)
    refine mC.mono (c_X7_ploughed (d := d + 19) hS hb hs) ?_
    rintro _ w1 ⟨row, be, left, mo, le, hx, rfl, hq⟩
    have g : Gr [31, 32, 33, 63, 64] [(30, 3), (30, 4), (44, 29), (44, 30)] w w1 := by rw [hq]; exact xHW_gr
    have hS1 : Shape w1 := by rw [hq]; exact xHW_S hS
    have hf := c_X8_findHoused (d := d + 15) (w := w1) (wo := b) (nb := nb) (nw := nw) (pN := fun b => (arr w 10 b).toNatClampNeg) (H := fun b => (holdsE (arr w 8 b) (arr w 9 b)).toNatClampNeg) (ok := fun i c => decide (¬ nI c = b ∧ suitE (arr w 12) (arr w 13) (arr w 14) (arr w 10) (arr w 11) i c)) hS1 (by rw [g.2 44 5 (by decide), e1]; exact tb) h1 (by rw [g.2 44 6 (by decide), e2]; exact tw) h2 (by rw [g.1 48 (by decide), f8]; exact fun b hb => (hB b hb).1) (by rw [g.1 48 (by decide), g.1 49 (by decide), f8, f9]; exact hH) (by rw [g.1 50 (by decide), f10]; exact hpe) (by rw [g.1 53 (by decide), f13]; exact fun i hi => (hW i hi).2.1) (by rw [g.1 51 (by decide), f11]; exact fun j hj => (hB j hj).2.2.2) (by rw [g.1 50 (by decide), g.1 51 (by decide), g.1 52 (by decide), g.1 53 (by decide), g.1 54 (by decide), f10, f11, f12, f13, f14]; exact fun i _ b _ => decide_eq_true_iff)
    rw [enum_all (by omega) hF_ext (fun _ => 0)] at hf
    refine mC.mono (c_X8_ploughed (d := d + 19) hS1 (by rw [g.2 44 5 (by decide), e1]; exact hb) hf) ?_
    rintro _ w2 ⟨row', hin, mo', le', hx', rfl, hq2⟩
    refine ⟨?_, hI.junkF (by rw [hq2]; exact mHW_S hS1) (g.tr (by rw [hq2]; exact mHW_gr)) (by decide) (by decide) (by decide) (by decide) (by decide) (by decide)⟩
    have hs := enum_some (nb := nb) (n := nw) (pN := fun b => (arr w 10 b).toNatClampNeg) (H := fun b => (holdsE (arr w 8 b) (arr w 9 b)).toNatClampNeg) (ok := fun i c => decide (¬ nI c = b ∧ suitE (arr w 12) (arr w 13) (arr w 14) (arr w 10) (arr w 11) i c)) (m := nw) (j := 0) (ρ := fun _ => 0) (s := none) (by omega) (fun i hi => absurd hi (Nat.not_lt_zero _))
    generalize enum (nb + 1) _ nw 0 (fun _ => 0) none = s at hx hx' hs
    match s, hx, hx', hs with
    | some (c, p, ρ), hx, hx', _ => rw [hx.1, hx'.1]
  · refine mC.mono (c_X7_ploughed_no (d := d + 19) hS hb) ?_
    rintro _ _ ⟨rfl, hq⟩; obtain rfl := hq.symm
    refine mC.mono (c_X8_ploughed_no (d := d + 19) hS (by rw [e1]; exact hb)) ?_
    rintro _ _ ⟨rfl, hq⟩; obtain rfl := hq.symm
    exact ⟨rfl, hI⟩

