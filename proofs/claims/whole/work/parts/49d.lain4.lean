-- lain, the class; both
theorem mJ_st {X : mX} {d : Nat} {M : mM} {Q : Option Value → mW → Prop} {pc : Nat} {L st st' : List Value} {w : mW} (h : st = st') (k : mJ X d M Q pc L st' w) : mJ X d M Q pc L st w := h ▸ k
theorem c_X7_lain_no {d : Nat} {w : mW} {sh l i k : Int32} (hS : Shape w) (h : ¬ ((0 ≤ sh ∧ sh < 4) ∧ ((0 ≤ l ∧ l ≤ 2) ∧ (-1 ≤ k ∧ k < 5)) ∧ 0 < fld w 7 0)) : mC (d + 2) kX7_lain [.ref 0, .int sh, .int l, .int i, .int k] w (fun r w' => r = some (.int (if 0 ≤ sh ∧ sh < 4 then (if (0 ≤ l ∧ l ≤ 2) ∧ (-1 ≤ k ∧ k < 5) then -3 else -2) else -1)) ∧ w' = setF w 0 8 0) := by
  refine mC.of (L := [_, _, _, _, _]) okX7_lain 0 rfl rfl ?_
  refine x_aload_n (pc := 0) (i := 0) dX7_lain_0 rfl rfl ?_
  refine x_iconst (pc := 1) (v := 0) dX7_lain_1 (by decide) ?_
  refine x_putI (pc := 2) hS fX7_64 dX7_lain_2 rfl rfl rfl rfl (fun hS => ?_)
  refine x_iload_n (pc := 5) (i := 1) dX7_lain_5 rfl rfl ?_
  refine x_ss (pc := 6) (As := [_]) rfl lX7_67 dX7_lain_6 rfl (Nat.le_of_ble_eq_true rfl) c_X5_isSheet ?_
  rintro _ _ ⟨rfl, hq⟩
  obtain rfl := hq.symm
  refine x_pushI ?_
  refine x_if_ne (pc := 9) (tgt := 14) dX7_lain_9 (by decide) (fun h9 => ?_) (fun h9 => ?_)
  · refine x_iload_n (pc := 14) (i := 2) dX7_lain_14 rfl rfl ?_
    refine x_ss (pc := 15) (As := [_]) rfl lX7_71 dX7_lain_15 rfl (Nat.le_of_ble_eq_true rfl) c_X7_isLane ?_
    rintro _ _ ⟨rfl, hq⟩
    obtain rfl := hq.symm
    refine x_pushI ?_
    refine x_if_eq (pc := 18) (tgt := 33) dX7_lain_18 (by decide) (fun h18 => ?_) (fun h18 => ?_)
    · refine x_bipush (pc := 33) (v := (-2)) dX7_lain_33 (by decide) ?_
      refine x_ri (pc := 35) dX7_lain_35 rfl rfl ?_
      refine ⟨?_, rfl⟩
      rw [if_pos (b2_n0.mp h9)]
      first | (have z9 := b2_e0.mp h18; rw [if_neg (fun z => z9 z.1)]) | (have z9 := h24; rw [if_neg (fun z => absurd z9 (Int32.not_lt.mpr z.2.1))]) | (have z9 := h30; rw [if_neg (fun z => z9 z.2.2)])
    · refine x_iload (pc := 21) dX7_lain_21 rfl ?_
      refine x_iconst (pc := 23) (v := (-1)) dX7_lain_23 (by decide) ?_
      refine x_icmp_lt (pc := 24) (tgt := 33) dX7_lain_24 (by decide) (fun h24 => ?_) (fun h24 => ?_)
      · refine x_bipush (pc := 33) (v := (-2)) dX7_lain_33 (by decide) ?_
        refine x_ri (pc := 35) dX7_lain_35 rfl rfl ?_
        refine ⟨?_, rfl⟩
        rw [if_pos (b2_n0.mp h9)]
        first | (have z9 := b2_e0.mp h18; rw [if_neg (fun z => z9 z.1)]) | (have z9 := h24; rw [if_neg (fun z => absurd z9 (Int32.not_lt.mpr z.2.1))]) | (have z9 := h30; rw [if_neg (fun z => z9 z.2.2)])
      · refine x_iload (pc := 27) dX7_lain_27 rfl ?_
        refine x_iconst (pc := 29) (v := 5) dX7_lain_29 (by decide) ?_
        refine x_icmp_lt (pc := 30) (tgt := 36) dX7_lain_30 (by decide) (fun h30 => ?_) (fun h30 => ?_)
        · refine x_aload_n (pc := 36) (i := 0) dX7_lain_36 rfl rfl ?_
          refine x_getR (pc := 37) hS fX7_28 dX7_lain_37 rfl rfl ?_
          refine x_vs (pc := 40) (As := []) rfl hS lX7_156 dX7_lain_40 rfl rfl (Nat.le_of_ble_eq_true rfl) (c_X0_isThere_7 hS) ?_
          rintro _ _ ⟨rfl, hq⟩
          obtain rfl := hq.symm
          refine x_pushI ?_
          rw [fld_setF_a (by decide)]
          refine x_if_ne (pc := 43) (tgt := 49) dX7_lain_43 (by decide) (fun h43 => ?_) (fun h43 => ?_)
          · exact absurd ⟨b2_n0.mp h9, ⟨b2_n0.mp h18, Int32.not_lt.mp h24, h30⟩, b2_n0.mp h43⟩ h
          · refine x_bipush (pc := 46) (v := (-3)) dX7_lain_46 (by decide) ?_
            refine x_ri (pc := 48) dX7_lain_48 rfl rfl ?_
            exact ⟨by rw [if_pos (b2_n0.mp h9), if_pos ⟨b2_n0.mp h18, Int32.not_lt.mp h24, h30⟩], rfl⟩
        · refine x_bipush (pc := 33) (v := (-2)) dX7_lain_33 (by decide) ?_
          refine x_ri (pc := 35) dX7_lain_35 rfl rfl ?_
          refine ⟨?_, rfl⟩
          rw [if_pos (b2_n0.mp h9)]
          first | (have z9 := b2_e0.mp h18; rw [if_neg (fun z => z9 z.1)]) | (have z9 := h24; rw [if_neg (fun z => absurd z9 (Int32.not_lt.mpr z.2.1))]) | (have z9 := h30; rw [if_neg (fun z => z9 z.2.2)])
  · refine x_iconst (pc := 12) (v := (-1)) dX7_lain_12 (by decide) ?_
    refine x_ri (pc := 13) dX7_lain_13 rfl rfl ?_
    exact ⟨by rw [if_neg (b2_e0.mp h9)], rfl⟩
def lFt (w : mW) (s : Nat) (l i n : Int32) : Int32 := if fRow (arr w 2 s) l ≠ 0 then fRow (arr w 2 s) l else fCells (arr w 3 s) i n
theorem c_X7_lain_f {d : Nat} {w : mW} {l i k : Int32} {s : Nat} (hS0 : Shape w) (hs : s < 4) (h : ((0 ≤ l ∧ l ≤ 2) ∧ (-1 ≤ k ∧ k < 5)) ∧ 0 < fld w 7 0) (ha : ¬ lFt w s l i (fld w 7 1) = 0) : mC (d + 3) kX7_lain [.ref 0, .int (nI s), .int l, .int i, .int k] w (fun r w' => r = some (.int (-10 - lFt w s l i (fld w 7 1))) ∧ w' = setF w 0 8 (lFt w s l i (fld w 7 1))) := by
  have hS := hS0
  refine mC.of (L := [_, _, _, _, _]) okX7_lain 0 rfl rfl ?_
  refine x_aload_n (pc := 0) (i := 0) dX7_lain_0 rfl rfl ?_
  refine x_iconst (pc := 1) (v := 0) dX7_lain_1 (by decide) ?_
  refine x_putI (pc := 2) hS fX7_64 dX7_lain_2 rfl rfl rfl rfl (fun hS => ?_)
  refine x_iload_n (pc := 5) (i := 1) dX7_lain_5 rfl rfl ?_
  refine x_ss (pc := 6) (As := [_]) rfl lX7_67 dX7_lain_6 rfl (Nat.le_of_ble_eq_true rfl) c_X5_isSheet ?_
  rintro _ _ ⟨rfl, hq⟩
  obtain rfl := hq.symm
  refine x_pushI ?_
  refine x_if_ne (pc := 9) (tgt := 14) dX7_lain_9 (by decide) (fun h9 => ?_) (fun h9 => absurd h9 (by rw [b2_n0]; exact k4 hs))
  refine x_iload_n (pc := 14) (i := 2) dX7_lain_14 rfl rfl ?_
  refine x_ss (pc := 15) (As := [_]) rfl lX7_71 dX7_lain_15 rfl (Nat.le_of_ble_eq_true rfl) c_X7_isLane ?_
  rintro _ _ ⟨rfl, hq⟩
  obtain rfl := hq.symm
  refine x_pushI ?_
  refine x_if_eq (pc := 18) (tgt := 33) dX7_lain_18 (by decide) (fun h18 => absurd h18 (by rw [b2_e0]; exact not_not_intro h.1.1)) (fun h18 => ?_)
  refine x_iload (pc := 21) dX7_lain_21 rfl ?_
  refine x_iconst (pc := 23) (v := (-1)) dX7_lain_23 (by decide) ?_
  refine x_icmp_lt (pc := 24) (tgt := 33) dX7_lain_24 (by decide) (fun h24 => absurd h24 (by exact Int32.not_lt.mpr h.1.2.1)) (fun h24 => ?_)
  refine x_iload (pc := 27) dX7_lain_27 rfl ?_
  refine x_iconst (pc := 29) (v := 5) dX7_lain_29 (by decide) ?_
  refine x_icmp_lt (pc := 30) (tgt := 36) dX7_lain_30 (by decide) (fun h30 => ?_) (fun h30 => absurd h30 (by exact not_not_intro h.1.2.2))
  refine x_aload_n (pc := 36) (i := 0) dX7_lain_36 rfl rfl ?_
  refine x_getR (pc := 37) hS fX7_28 dX7_lain_37 rfl rfl ?_
  refine x_vs (pc := 40) (As := []) rfl hS lX7_156 dX7_lain_40 rfl rfl (Nat.le_of_ble_eq_true rfl) (c_X0_isThere_7 hS) ?_
  rintro _ _ ⟨rfl, hq⟩
  obtain rfl := hq.symm
  refine x_pushI ?_
  rw [fld_setF_a (by decide)]
  refine x_if_ne (pc := 43) (tgt := 49) dX7_lain_43 (by decide) (fun h43 => ?_) (fun h43 => absurd h43 (by rw [b2_n0]; exact h.2))
  refine x_aload_n (pc := 49) (i := 0) dX7_lain_49 rfl rfl ?_
  refine x_aload_n (pc := 50) (i := 0) dX7_lain_50 rfl rfl ?_
  refine x_getR (pc := 51) hS fX7_12 dX7_lain_51 rfl rfl ?_
  refine x_iload_n (pc := 54) (i := 1) dX7_lain_54 rfl rfl ?_
  refine x_iload_n (pc := 55) (i := 2) dX7_lain_55 rfl rfl ?_
  refine x_vs (pc := 56) (As := [_, _]) rfl hS lX7_74 dX7_lain_56 rfl rfl (Nat.le_of_ble_eq_true rfl) (c_X5_faultOfRow hS hs) ?_
  rintro _ _ ⟨rfl, hq⟩
  obtain rfl := hq.symm
  refine x_pushI ?_
  rw [arr_setF]
  refine x_putI (pc := 59) hS fX7_64 dX7_lain_59 rfl rfl rfl rfl (fun hS => ?_)
  rw [setF_setF]
  have hS : Shape (setF w 0 8 (fRow (arr w 2 s) l)) := hS0.stF rfl rfl _
  refine x_aload_n (pc := 62) (i := 0) dX7_lain_62 rfl rfl ?_
  refine x_getI (pc := 63) hS fX7_64 dX7_lain_63 rfl rfl ?_
  rw [fld_setF hS0 rfl rfl]
  refine x_if_ne (pc := 66) (tgt := 89) dX7_lain_66 (by decide) (fun h66 => ?_) (fun h66 => ?_)
  · first | (have z9 := h66; rw [setF_setF, show fCells (arr w 3 s) i (fld w 7 1) = lFt w s l i (fld w 7 1) from by unfold lFt; rw [if_neg (not_not_intro z9)]]) | (have z9 := h66; rw [show fRow (arr w 2 s) l = lFt w s l i (fld w 7 1) from by unfold lFt; rw [if_pos z9]])
    have hS : Shape (setF w 0 8 (lFt w s l i (fld w 7 1))) := hS0.stF rfl rfl _
    refine x_aload_n (pc := 89) (i := 0) dX7_lain_89 rfl rfl ?_
    refine x_getI (pc := 90) hS fX7_64 dX7_lain_90 rfl rfl ?_
    rw [fld_setF hS0 rfl rfl]
    refine x_if_eq (pc := 93) (tgt := 104) dX7_lain_93 (by decide) (fun h93 => absurd h93 (by exact ha)) (fun h93 => ?_)
    refine x_bipush (pc := 96) (v := (-10)) dX7_lain_96 (by decide) ?_
    refine x_aload_n (pc := 98) (i := 0) dX7_lain_98 rfl rfl ?_
    refine x_getI (pc := 99) hS fX7_64 dX7_lain_99 rfl rfl ?_
    rw [fld_setF hS0 rfl rfl]
    refine x_isub (pc := 102) dX7_lain_102 ?_
    refine x_ri (pc := 103) dX7_lain_103 rfl rfl ?_
    exact ⟨rfl, rfl⟩
  · refine x_aload_n (pc := 69) (i := 0) dX7_lain_69 rfl rfl ?_
    refine x_aload_n (pc := 70) (i := 0) dX7_lain_70 rfl rfl ?_
    refine x_getR (pc := 71) hS fX7_12 dX7_lain_71 rfl rfl ?_
    refine x_iload_n (pc := 74) (i := 1) dX7_lain_74 rfl rfl ?_
    refine x_iload_n (pc := 75) (i := 3) dX7_lain_75 rfl rfl ?_
    refine x_aload_n (pc := 76) (i := 0) dX7_lain_76 rfl rfl ?_
    refine x_getR (pc := 77) hS fX7_28 dX7_lain_77 rfl rfl ?_
    refine x_getI (pc := 80) hS fX7_191 dX7_lain_80 rfl rfl ?_
    rw [fld_setF_a (by decide)]
    refine x_vs (pc := 83) (As := [_, _, _]) rfl hS lX7_78 dX7_lain_83 rfl rfl (Nat.le_of_ble_eq_true rfl) (c_X5_faultOfCells hS hs) ?_
    rintro _ _ ⟨rfl, hq⟩
    obtain rfl := hq.symm
    refine x_pushI ?_
    rw [arr_setF]
    refine x_putI (pc := 86) hS fX7_64 dX7_lain_86 rfl rfl rfl rfl (fun hS => ?_)
    first | (have z9 := h66; rw [setF_setF, show fCells (arr w 3 s) i (fld w 7 1) = lFt w s l i (fld w 7 1) from by unfold lFt; rw [if_neg (not_not_intro z9)]]) | (have z9 := h66; rw [show fRow (arr w 2 s) l = lFt w s l i (fld w 7 1) from by unfold lFt; rw [if_pos z9]])
    have hS : Shape (setF w 0 8 (lFt w s l i (fld w 7 1))) := hS0.stF rfl rfl _
    refine x_aload_n (pc := 89) (i := 0) dX7_lain_89 rfl rfl ?_
    refine x_getI (pc := 90) hS fX7_64 dX7_lain_90 rfl rfl ?_
    rw [fld_setF hS0 rfl rfl]
    refine x_if_eq (pc := 93) (tgt := 104) dX7_lain_93 (by decide) (fun h93 => absurd h93 (by exact ha)) (fun h93 => ?_)
    refine x_bipush (pc := 96) (v := (-10)) dX7_lain_96 (by decide) ?_
    refine x_aload_n (pc := 98) (i := 0) dX7_lain_98 rfl rfl ?_
    refine x_getI (pc := 99) hS fX7_64 dX7_lain_99 rfl rfl ?_
    rw [fld_setF hS0 rfl rfl]
    refine x_isub (pc := 102) dX7_lain_102 ?_
    refine x_ri (pc := 103) dX7_lain_103 rfl rfl ?_
    exact ⟨rfl, rfl⟩
def lAx (k nb nw wy : Int32) (fi : Nat → Int32) : Int32 := if k = -1 then wy else if wy = 0 then -9 else if (0 ≤ k ∧ k < nw) ∧ (0 ≤ fi k.toNatClampNeg ∧ fi k.toNatClampNeg < nb) then fi k.toNatClampNeg else -9
abbrev lDR (w : mW) (s i0 nw : Nat) : Nat → Int32 := tkI nw (fun t => arr w 4 (60 * s + (i0 + t))) (arr w 35)
abbrev lW1 (w : mW) (s i0 nw : Nat) : mW := setA (setF w 0 8 0) 35 (lDR w s i0 nw)
set_option maxHeartbeats 1000000 in
theorem c_X7_lain_m {d : Nat} {w : mW} {l k : Int32} {s i0 n nb nw : Nat} {H : Nat → Nat} {fo : Bool} (hfo : fo = decide (0 ≤ k)) (hS0 : Shape w) (hs : s < 4) (h : ((0 ≤ l ∧ l ≤ 2) ∧ (-1 ≤ k ∧ k < 5)) ∧ 0 < fld w 7 0) (tb : (fld w 7 0).toInt = (nb : Int)) (hnb : nb ≤ 5) (tw : (fld w 7 1).toInt = (nw : Int)) (hnw : nw ≤ 5) (ha1 : fRow (arr w 2 s) l = 0) (ha2 : fCells (arr w 3 s) (nI i0) (nI nw) = 0) (hsz : arr w 3 s = nI n) (hn : n ≤ 60) (hi : i0 + nw ≤ n) (hH : ∀ b, b < nb → holdsE (arr w 8 b) (arr w 9 b) = nI (H b) ∧ H b ≤ 8) : mC (d + 14) kX7_lain [.ref 0, .int (nI s), .int l, .int (nI i0), .int k] w (fun r w' => ∃ row fi left lat wy, lX nw (enum (nb + 1) (lF nb nw H (lDR w s i0 nw) fo) nw 0 (fun _ => 0) (0, fun _ => 0)) wy fi ∧ r = some (.int (lAx k (fld w 7 0) (nI nw) wy fi)) ∧ w' = xLW (setF (lW1 w s i0 nw) 34 6 (b2 (fo = true))) row fi left lat wy) := by
  have hS := hS0
  have ew := nI_ofT tw (by omega)
  have hx0 : k < 0 → (0 : Int32) = b2 (fo = true) := fun q => by rw [b2_f]; rw [hfo, decide_eq_true_eq]; exact Int32.not_le.mpr q
  have hx1 : ¬ k < 0 → (1 : Int32) = b2 (fo = true) := fun q => by rw [b2_t]; rw [hfo, decide_eq_true_eq]; exact Int32.not_lt.mp q
  have hS1 : Shape (lW1 w s i0 nw) := (hS0.stF rfl rfl _).stA _ _
  have hS6 : Shape (setF (lW1 w s i0 nw) 34 6 (b2 (fo = true))) := hS1.stF rfl rfl _
  have q70 : fld (lW1 w s i0 nw) 7 0 = fld w 7 0 := by rw [fld_setA, fld_setF_a (by decide)]
  have q71 : fld (lW1 w s i0 nw) 7 1 = fld w 7 1 := by rw [fld_setA, fld_setF_a (by decide)]
  have q8 : arr (lW1 w s i0 nw) 8 = arr w 8 := by rw [arr_setA_a (by decide), arr_setF]
  have q9 : arr (lW1 w s i0 nw) 9 = arr w 9 := by rw [arr_setA_a (by decide), arr_setF]
  have q35 : arr (lW1 w s i0 nw) 35 = lDR w s i0 nw := by rw [arr_setA (hS0.stF rfl rfl _) rfl]
  have z70 : ∀ row fi left lat wy, fld (xLW (setF (lW1 w s i0 nw) 34 6 (b2 (fo = true))) row fi left lat wy) 7 0 = fld w 7 0 := fun row fi left lat wy => by rw [xLW_f (by decide), fld_setF_a (by decide), q70]
  have z71 : ∀ row fi left lat wy, fld (xLW (setF (lW1 w s i0 nw) 34 6 (b2 (fo = true))) row fi left lat wy) 7 1 = nI nw := fun row fi left lat wy => by rw [xLW_f (by decide), fld_setF_a (by decide), q71, ew]
  have hsr := c_X2_search (d := d) (w := lW1 w s i0 nw) (nb := nb) (nw := nw) (H := H) (fo := fo) (x := b2 (fo = true)) rfl hS1 (by rw [q70]; exact tb) hnb (by rw [q71]; exact tw) hnw (by rw [q8, q9]; exact hH)
  rw [q35] at hsr
  refine mC.of (L := [_, _, _, _, _]) okX7_lain 0 rfl rfl ?_
  refine x_aload_n (pc := 0) (i := 0) dX7_lain_0 rfl rfl ?_
  refine x_iconst (pc := 1) (v := 0) dX7_lain_1 (by decide) ?_
  refine x_putI (pc := 2) hS fX7_64 dX7_lain_2 rfl rfl rfl rfl (fun hS => ?_)
  refine x_iload_n (pc := 5) (i := 1) dX7_lain_5 rfl rfl ?_
  refine x_ss (pc := 6) (As := [_]) rfl lX7_67 dX7_lain_6 rfl (Nat.le_of_ble_eq_true rfl) c_X5_isSheet ?_
  rintro _ _ ⟨rfl, hq⟩
  obtain rfl := hq.symm
  refine x_pushI ?_
  refine x_if_ne (pc := 9) (tgt := 14) dX7_lain_9 (by decide) (fun h9 => ?_) (fun h9 => absurd h9 (by rw [b2_n0]; exact k4 hs))
  refine x_iload_n (pc := 14) (i := 2) dX7_lain_14 rfl rfl ?_
  refine x_ss (pc := 15) (As := [_]) rfl lX7_71 dX7_lain_15 rfl (Nat.le_of_ble_eq_true rfl) c_X7_isLane ?_
  rintro _ _ ⟨rfl, hq⟩
  obtain rfl := hq.symm
  refine x_pushI ?_
  refine x_if_eq (pc := 18) (tgt := 33) dX7_lain_18 (by decide) (fun h18 => absurd h18 (by rw [b2_e0]; exact not_not_intro h.1.1)) (fun h18 => ?_)
  refine x_iload (pc := 21) dX7_lain_21 rfl ?_
  refine x_iconst (pc := 23) (v := (-1)) dX7_lain_23 (by decide) ?_
  refine x_icmp_lt (pc := 24) (tgt := 33) dX7_lain_24 (by decide) (fun h24 => absurd h24 (by exact Int32.not_lt.mpr h.1.2.1)) (fun h24 => ?_)
  refine x_iload (pc := 27) dX7_lain_27 rfl ?_
  refine x_iconst (pc := 29) (v := 5) dX7_lain_29 (by decide) ?_
  refine x_icmp_lt (pc := 30) (tgt := 36) dX7_lain_30 (by decide) (fun h30 => ?_) (fun h30 => absurd h30 (by exact not_not_intro h.1.2.2))
  refine x_aload_n (pc := 36) (i := 0) dX7_lain_36 rfl rfl ?_
  refine x_getR (pc := 37) hS fX7_28 dX7_lain_37 rfl rfl ?_
  refine x_vs (pc := 40) (As := []) rfl hS lX7_156 dX7_lain_40 rfl rfl (Nat.le_of_ble_eq_true rfl) (c_X0_isThere_7 hS) ?_
  rintro _ _ ⟨rfl, hq⟩
  obtain rfl := hq.symm
  refine x_pushI ?_
  rw [fld_setF_a (by decide)]
  refine x_if_ne (pc := 43) (tgt := 49) dX7_lain_43 (by decide) (fun h43 => ?_) (fun h43 => absurd h43 (by rw [b2_n0]; exact h.2))
  refine x_aload_n (pc := 49) (i := 0) dX7_lain_49 rfl rfl ?_
  refine x_aload_n (pc := 50) (i := 0) dX7_lain_50 rfl rfl ?_
  refine x_getR (pc := 51) hS fX7_12 dX7_lain_51 rfl rfl ?_
  refine x_iload_n (pc := 54) (i := 1) dX7_lain_54 rfl rfl ?_
  refine x_iload_n (pc := 55) (i := 2) dX7_lain_55 rfl rfl ?_
  refine x_vs (pc := 56) (As := [_, _]) rfl hS lX7_74 dX7_lain_56 rfl rfl (Nat.le_of_ble_eq_true rfl) (c_X5_faultOfRow hS hs) ?_
  rintro _ _ ⟨rfl, hq⟩
  obtain rfl := hq.symm
  refine x_pushI ?_
  rw [arr_setF, ha1]
  refine x_putI (pc := 59) hS fX7_64 dX7_lain_59 rfl rfl rfl rfl (fun hS => ?_)
  rw [setF_setF]
  have hS : Shape (setF w 0 8 0) := hS0.stF rfl rfl _
  refine x_aload_n (pc := 62) (i := 0) dX7_lain_62 rfl rfl ?_
  refine x_getI (pc := 63) hS fX7_64 dX7_lain_63 rfl rfl ?_
  rw [fld_setF hS0 rfl rfl]
  refine x_if_ne (pc := 66) (tgt := 89) dX7_lain_66 (by decide) (fun h66 => absurd h66 (by exact not_not_intro rfl)) (fun h66 => ?_)
  refine x_aload_n (pc := 69) (i := 0) dX7_lain_69 rfl rfl ?_
  refine x_aload_n (pc := 70) (i := 0) dX7_lain_70 rfl rfl ?_
  refine x_getR (pc := 71) hS fX7_12 dX7_lain_71 rfl rfl ?_
  refine x_iload_n (pc := 74) (i := 1) dX7_lain_74 rfl rfl ?_
  refine x_iload_n (pc := 75) (i := 3) dX7_lain_75 rfl rfl ?_
  refine x_aload_n (pc := 76) (i := 0) dX7_lain_76 rfl rfl ?_
  refine x_getR (pc := 77) hS fX7_28 dX7_lain_77 rfl rfl ?_
  refine x_getI (pc := 80) hS fX7_191 dX7_lain_80 rfl rfl ?_
  rw [fld_setF_a (by decide), ew]
  refine x_vs (pc := 83) (As := [_, _, _]) rfl hS lX7_78 dX7_lain_83 rfl rfl (Nat.le_of_ble_eq_true rfl) (c_X5_faultOfCells hS hs) ?_
  rintro _ _ ⟨rfl, hq⟩
  obtain rfl := hq.symm
  refine x_pushI ?_
  rw [arr_setF, ha2]
  refine x_putI (pc := 86) hS fX7_64 dX7_lain_86 rfl rfl rfl rfl (fun hS => ?_)
  rw [setF_setF]
  have hS : Shape (setF w 0 8 0) := hS0.stF rfl rfl _
  refine x_aload_n (pc := 89) (i := 0) dX7_lain_89 rfl rfl ?_
  refine x_getI (pc := 90) hS fX7_64 dX7_lain_90 rfl rfl ?_
  rw [fld_setF hS0 rfl rfl]
  refine x_if_eq (pc := 93) (tgt := 104) dX7_lain_93 (by decide) (fun h93 => ?_) (fun h93 => absurd h93 (by exact not_not_intro rfl))
  refine x_aload_n (pc := 104) (i := 0) dX7_lain_104 rfl rfl ?_
  refine x_getR (pc := 105) hS fX7_49 dX7_lain_105 rfl rfl ?_
  refine x_aload_n (pc := 108) (i := 0) dX7_lain_108 rfl rfl ?_
  refine x_getR (pc := 109) hS fX7_12 dX7_lain_109 rfl rfl ?_
  refine x_iload_n (pc := 112) (i := 1) dX7_lain_112 rfl rfl ?_
  refine x_iload_n (pc := 113) (i := 3) dX7_lain_113 rfl rfl ?_
  refine x_aload_n (pc := 114) (i := 0) dX7_lain_114 rfl rfl ?_
  refine x_getR (pc := 115) hS fX7_28 dX7_lain_115 rfl rfl ?_
  refine x_getI (pc := 118) hS fX7_191 dX7_lain_118 rfl rfl ?_
  rw [fld_setF_a (by decide), ew]
  refine x_vs (pc := 121) (As := [_, _, _, _]) rfl hS lX7_194 dX7_lain_121 rfl rfl (Nat.le_of_ble_eq_true rfl) (c_X2_load (n := n) hS hs (by rw [arr_setF]; exact hsz) hn hi hnw) ?_
  rintro _ _ ⟨rfl, hq⟩
  simp only [arr_setF] at hq
  obtain rfl := hq.symm
  have hS := hS1
  refine x_pushV ?_
  refine x_aload_n (pc := 124) (i := 0) dX7_lain_124 rfl rfl ?_
  refine x_getR (pc := 125) hS fX7_49 dX7_lain_125 rfl rfl ?_
  refine x_aload_n (pc := 128) (i := 0) dX7_lain_128 rfl rfl ?_
  refine x_getR (pc := 129) hS fX7_28 dX7_lain_129 rfl rfl ?_
  refine x_iload (pc := 132) dX7_lain_132 rfl ?_
  refine x_if_lt (pc := 134) (tgt := 141) dX7_lain_134 (by decide) (fun h134 => ?_) (fun h134 => ?_)
  · refine x_iconst (pc := 141) (v := 0) dX7_lain_141 (by decide) ?_
    first | rw [show (Value.int 1) = Value.int (b2 (fo = true)) from by rw [← hx1 h134]] | rw [show (Value.int 0) = Value.int (b2 (fo = true)) from by rw [← hx0 h134]]
    refine x_vs (pc := 142) (As := [_, _]) rfl hS lX7_195 dX7_lain_142 rfl rfl (Nat.le_of_ble_eq_true rfl) hsr ?_
    rintro _ _ ⟨rfl, row, fi, left, lat, wy, hx, hq⟩
    obtain rfl := hq.symm
    have hS : Shape (xLW (setF (lW1 w s i0 nw) 34 6 (b2 (fo = true))) row fi left lat wy) := xLW_S hS6
    refine x_pushV ?_
    refine x_iload (pc := 145) dX7_lain_145 rfl ?_
    refine x_iconst (pc := 147) (v := (-1)) dX7_lain_147 (by decide) ?_
    refine x_icmp_ne (pc := 148) (tgt := 159) dX7_lain_148 (by decide) (fun h148 => ?_) (fun h148 => ?_)
    · refine x_aload_n (pc := 159) (i := 0) dX7_lain_159 rfl rfl ?_
      refine x_getR (pc := 160) hS fX7_49 dX7_lain_160 rfl rfl ?_
      refine x_getI (pc := 163) hS fX7_198 dX7_lain_163 rfl rfl ?_
      rw [xLW_5 hS6]
      refine x_if_eq (pc := 166) (tgt := 181) dX7_lain_166 (by decide) (fun h166 => ?_) (fun h166 => ?_)
      · refine x_bipush (pc := 181) (v := (-9)) dX7_lain_181 (by decide) ?_
        refine x_ri (pc := 183) dX7_lain_183 rfl rfl ?_
        refine ⟨row, fi, left, lat, wy, hx, ?_, rfl⟩
        unfold lAx
        first | rw [if_neg h148, if_pos h166] | (have z9 := b2_e0.mp h178; rw [if_neg h148, if_neg h166, if_neg (fun z => z9 z.1)])
      · refine x_aload_n (pc := 169) (i := 0) dX7_lain_169 rfl rfl ?_
        refine x_getR (pc := 170) hS fX7_28 dX7_lain_170 rfl rfl ?_
        refine x_iload (pc := 173) dX7_lain_173 rfl ?_
        refine x_vs (pc := 175) (As := [_]) rfl hS lX7_123 dX7_lain_175 rfl rfl (Nat.le_of_ble_eq_true rfl) (c_X0_hasWalker_7 hS) ?_
        rintro _ _ ⟨rfl, hq⟩
        obtain rfl := hq.symm
        refine x_pushI ?_
        rw [z71]
        refine x_if_ne (pc := 178) (tgt := 184) dX7_lain_178 (by decide) (fun h178 => ?_) (fun h178 => ?_)
        · obtain ⟨j, hj, rfl⟩ := in_nI (x := nI nw) (n := nw) (nI_toInt (by omega)) (by omega) (b2_n0.mp h178)
          have cj : (nI j).toNatClampNeg = j := nI_clamp (by omega)
          refine x_aload_n (pc := 184) (i := 0) dX7_lain_184 rfl rfl ?_
          refine x_getR (pc := 185) hS fX7_28 dX7_lain_185 rfl rfl ?_
          refine x_aload_n (pc := 188) (i := 0) dX7_lain_188 rfl rfl ?_
          refine x_getR (pc := 189) hS fX7_49 dX7_lain_189 rfl rfl ?_
          refine x_getR (pc := 192) hS fX7_201 dX7_lain_192 rfl rfl ?_
          refine x_iload (pc := 195) dX7_lain_195 rfl ?_
          refine x_aldN (pc := 197) hS dX7_lain_197 rfl (by omega) (by decide) ?_
          rw [xLW_37 hS6]
          refine x_vs (pc := 198) (As := [_]) rfl hS lX7_100 dX7_lain_198 rfl rfl (Nat.le_of_ble_eq_true rfl) (c_X0_hasBarrow_7 hS) ?_
          rintro _ _ ⟨rfl, hq⟩
          obtain rfl := hq.symm
          refine x_pushI ?_
          rw [z70]
          refine x_if_eq (pc := 201) (tgt := 217) dX7_lain_201 (by decide) (fun h201 => ?_) (fun h201 => ?_)
          · refine x_bipush (pc := 217) (v := (-9)) dX7_lain_217 (by decide) ?_
            refine x_ri (pc := 219) dX7_lain_219 rfl rfl ?_
            refine ⟨row, fi, left, lat, wy, hx, ?_, rfl⟩
            unfold lAx
            rw [if_neg h148, if_neg h166]
            first | (have z9 := b2_n0.mp h201; rw [cj, if_pos ⟨b2_n0.mp h178, z9⟩]) | (have z9 := b2_e0.mp h201; rw [cj, if_neg (fun z => z9 z.2)])
          · refine x_aload_n (pc := 204) (i := 0) dX7_lain_204 rfl rfl ?_
            refine x_getR (pc := 205) hS fX7_49 dX7_lain_205 rfl rfl ?_
            refine x_getR (pc := 208) hS fX7_201 dX7_lain_208 rfl rfl ?_
            refine x_iload (pc := 211) dX7_lain_211 rfl ?_
            refine x_aldN (pc := 213) hS dX7_lain_213 rfl (by omega) (by decide) ?_
            rw [xLW_37 hS6]
            refine x_goto (pc := 214) (tgt := 219) dX7_lain_214 (by decide) ?_
            refine x_ri (pc := 219) dX7_lain_219 rfl rfl ?_
            refine ⟨row, fi, left, lat, wy, hx, ?_, rfl⟩
            unfold lAx
            rw [if_neg h148, if_neg h166]
            first | (have z9 := b2_n0.mp h201; rw [cj, if_pos ⟨b2_n0.mp h178, z9⟩]) | (have z9 := b2_e0.mp h201; rw [cj, if_neg (fun z => z9 z.2)])
        · refine x_bipush (pc := 181) (v := (-9)) dX7_lain_181 (by decide) ?_
          refine x_ri (pc := 183) dX7_lain_183 rfl rfl ?_
          refine ⟨row, fi, left, lat, wy, hx, ?_, rfl⟩
          unfold lAx
          first | rw [if_neg h148, if_pos h166] | (have z9 := b2_e0.mp h178; rw [if_neg h148, if_neg h166, if_neg (fun z => z9 z.1)])
    · refine x_aload_n (pc := 151) (i := 0) dX7_lain_151 rfl rfl ?_
      refine x_getR (pc := 152) hS fX7_49 dX7_lain_152 rfl rfl ?_
      refine x_getI (pc := 155) hS fX7_198 dX7_lain_155 rfl rfl ?_
      rw [xLW_5 hS6]
      refine x_ri (pc := 158) dX7_lain_158 rfl rfl ?_
      exact ⟨row, fi, left, lat, wy, hx, by unfold lAx; rw [if_pos h148], rfl⟩
  · refine x_iconst (pc := 137) (v := 1) dX7_lain_137 (by decide) ?_
    refine x_goto (pc := 138) (tgt := 142) dX7_lain_138 (by decide) ?_
    first | rw [show (Value.int 1) = Value.int (b2 (fo = true)) from by rw [← hx1 h134]] | rw [show (Value.int 0) = Value.int (b2 (fo = true)) from by rw [← hx0 h134]]
    refine x_vs (pc := 142) (As := [_, _]) rfl hS lX7_195 dX7_lain_142 rfl rfl (Nat.le_of_ble_eq_true rfl) hsr ?_
    rintro _ _ ⟨rfl, row, fi, left, lat, wy, hx, hq⟩
    obtain rfl := hq.symm
    have hS : Shape (xLW (setF (lW1 w s i0 nw) 34 6 (b2 (fo = true))) row fi left lat wy) := xLW_S hS6
    refine x_pushV ?_
    refine x_iload (pc := 145) dX7_lain_145 rfl ?_
    refine x_iconst (pc := 147) (v := (-1)) dX7_lain_147 (by decide) ?_
    refine x_icmp_ne (pc := 148) (tgt := 159) dX7_lain_148 (by decide) (fun h148 => ?_) (fun h148 => ?_)
    · refine x_aload_n (pc := 159) (i := 0) dX7_lain_159 rfl rfl ?_
      refine x_getR (pc := 160) hS fX7_49 dX7_lain_160 rfl rfl ?_
      refine x_getI (pc := 163) hS fX7_198 dX7_lain_163 rfl rfl ?_
      rw [xLW_5 hS6]
      refine x_if_eq (pc := 166) (tgt := 181) dX7_lain_166 (by decide) (fun h166 => ?_) (fun h166 => ?_)
      · refine x_bipush (pc := 181) (v := (-9)) dX7_lain_181 (by decide) ?_
        refine x_ri (pc := 183) dX7_lain_183 rfl rfl ?_
        refine ⟨row, fi, left, lat, wy, hx, ?_, rfl⟩
        unfold lAx
        first | rw [if_neg h148, if_pos h166] | (have z9 := b2_e0.mp h178; rw [if_neg h148, if_neg h166, if_neg (fun z => z9 z.1)])
      · refine x_aload_n (pc := 169) (i := 0) dX7_lain_169 rfl rfl ?_
        refine x_getR (pc := 170) hS fX7_28 dX7_lain_170 rfl rfl ?_
        refine x_iload (pc := 173) dX7_lain_173 rfl ?_
        refine x_vs (pc := 175) (As := [_]) rfl hS lX7_123 dX7_lain_175 rfl rfl (Nat.le_of_ble_eq_true rfl) (c_X0_hasWalker_7 hS) ?_
        rintro _ _ ⟨rfl, hq⟩
        obtain rfl := hq.symm
        refine x_pushI ?_
        rw [z71]
        refine x_if_ne (pc := 178) (tgt := 184) dX7_lain_178 (by decide) (fun h178 => ?_) (fun h178 => ?_)
        · obtain ⟨j, hj, rfl⟩ := in_nI (x := nI nw) (n := nw) (nI_toInt (by omega)) (by omega) (b2_n0.mp h178)
          have cj : (nI j).toNatClampNeg = j := nI_clamp (by omega)
          refine x_aload_n (pc := 184) (i := 0) dX7_lain_184 rfl rfl ?_
          refine x_getR (pc := 185) hS fX7_28 dX7_lain_185 rfl rfl ?_
          refine x_aload_n (pc := 188) (i := 0) dX7_lain_188 rfl rfl ?_
          refine x_getR (pc := 189) hS fX7_49 dX7_lain_189 rfl rfl ?_
          refine x_getR (pc := 192) hS fX7_201 dX7_lain_192 rfl rfl ?_
          refine x_iload (pc := 195) dX7_lain_195 rfl ?_
          refine x_aldN (pc := 197) hS dX7_lain_197 rfl (by omega) (by decide) ?_
          rw [xLW_37 hS6]
          refine x_vs (pc := 198) (As := [_]) rfl hS lX7_100 dX7_lain_198 rfl rfl (Nat.le_of_ble_eq_true rfl) (c_X0_hasBarrow_7 hS) ?_
          rintro _ _ ⟨rfl, hq⟩
          obtain rfl := hq.symm
          refine x_pushI ?_
          rw [z70]
          refine x_if_eq (pc := 201) (tgt := 217) dX7_lain_201 (by decide) (fun h201 => ?_) (fun h201 => ?_)
          · refine x_bipush (pc := 217) (v := (-9)) dX7_lain_217 (by decide) ?_
            refine x_ri (pc := 219) dX7_lain_219 rfl rfl ?_
            refine ⟨row, fi, left, lat, wy, hx, ?_, rfl⟩
            unfold lAx
            rw [if_neg h148, if_neg h166]
            first | (have z9 := b2_n0.mp h201; rw [cj, if_pos ⟨b2_n0.mp h178, z9⟩]) | (have z9 := b2_e0.mp h201; rw [cj, if_neg (fun z => z9 z.2)])
          · refine x_aload_n (pc := 204) (i := 0) dX7_lain_204 rfl rfl ?_
            refine x_getR (pc := 205) hS fX7_49 dX7_lain_205 rfl rfl ?_
            refine x_getR (pc := 208) hS fX7_201 dX7_lain_208 rfl rfl ?_
            refine x_iload (pc := 211) dX7_lain_211 rfl ?_
            refine x_aldN (pc := 213) hS dX7_lain_213 rfl (by omega) (by decide) ?_
            rw [xLW_37 hS6]
            refine x_goto (pc := 214) (tgt := 219) dX7_lain_214 (by decide) ?_
            refine x_ri (pc := 219) dX7_lain_219 rfl rfl ?_
            refine ⟨row, fi, left, lat, wy, hx, ?_, rfl⟩
            unfold lAx
            rw [if_neg h148, if_neg h166]
            first | (have z9 := b2_n0.mp h201; rw [cj, if_pos ⟨b2_n0.mp h178, z9⟩]) | (have z9 := b2_e0.mp h201; rw [cj, if_neg (fun z => z9 z.2)])
        · refine x_bipush (pc := 181) (v := (-9)) dX7_lain_181 (by decide) ?_
          refine x_ri (pc := 183) dX7_lain_183 rfl rfl ?_
          refine ⟨row, fi, left, lat, wy, hx, ?_, rfl⟩
          unfold lAx
          first | rw [if_neg h148, if_pos h166] | (have z9 := b2_e0.mp h178; rw [if_neg h148, if_neg h166, if_neg (fun z => z9 z.1)])
    · refine x_aload_n (pc := 151) (i := 0) dX7_lain_151 rfl rfl ?_
      refine x_getR (pc := 152) hS fX7_49 dX7_lain_152 rfl rfl ?_
      refine x_getI (pc := 155) hS fX7_198 dX7_lain_155 rfl rfl ?_
      rw [xLW_5 hS6]
      refine x_ri (pc := 158) dX7_lain_158 rfl rfl ?_
      exact ⟨row, fi, left, lat, wy, hx, by unfold lAx; rw [if_pos h148], rfl⟩
theorem enumL_row {nb n : Nat} {H : Nat → Nat} {dr : Nat → Int32} {fo : Bool} : ∀ {m j : Nat} {ρ : Nat → Nat} {s : lSt}, j + m = n → (∀ i, i < j → ρ i ≤ nb) → (∀ i, i < n → s.2 i ≤ nb) → ∀ i, i < n → (enum (nb + 1) (lF nb n H dr fo) m j ρ s).2 i ≤ nb
  | 0, j, ρ, s, h, e, hs => by
    show ∀ i, i < n → (lF nb n H dr fo ρ s).2 i ≤ nb
    unfold lF
    split
    · exact hs
    · intro i hi
      show (if s.1 = 0 then hTr n ρ else s.2) i ≤ nb
      split
      · unfold hTr; rw [if_pos hi]; exact e i (by omega)
      · exact hs i hi
  | m + 1, j, ρ, s, h, e, hs => by
    refine foldN_pres (p := fun s : lSt => ∀ i, i < n → s.2 i ≤ nb) hs (fun c hc s hs => enumL_row (by omega) (fun i hi => ?_) hs)
    by_cases q : i = j
    · subst q; rw [ud_eq]; omega
    · rw [ud_ne q]; exact e i (by omega)
theorem lF_dr {nb n : Nat} {H : Nat → Nat} {dr dr' : Nat → Int32} (h : ∀ i, i < n → dr i = dr' i) : lF nb n H dr' = lF nb n H dr := by
  funext fo ρ s
  have e : lAcc nb n H dr' ρ = lAcc nb n H dr ρ := by
    unfold lAcc
    rw [allN_congr (p := fun i => toldB dr' i (drR nb ρ i)) (q := fun i => toldB dr i (drR nb ρ i)) (fun i hi => by simp only [toldB]; rw [h i hi])]
  unfold lF
  rw [e]
theorem lAns_eq {nb nw : Nat} {NB NW k wy : Int32} {fi : Nat → Int32} {H : Nat → Nat} {dr dr' : Nat → Int32} {fo : Bool} (hfo : fo = decide (0 ≤ k)) (tb : NB.toInt = (nb : Int)) (hnb : nb ≤ 5) (tw : NW.toInt = (nw : Int)) (hnw : nw ≤ 5) (hk : -1 ≤ k) (hdr : ∀ i, i < nw → dr i = dr' i) (hx : lX nw (enum (nb + 1) (lF nb nw H dr fo) nw 0 (fun _ => 0) (0, fun _ => 0)) wy fi) : (if k = -1 then nI (enum (nb + 1) (lF nb nw H dr' false) nw 0 (fun _ => 0) (0, fun _ => 0)).1 else lIs k nw nb (enum (nb + 1) (lF nb nw H dr' false) nw 0 (fun _ => 0) (0, fun _ => 0))) = lAx k NB NW wy fi := by
  rw [lF_dr hdr]
  unfold lAx
  by_cases e1 : k = -1
  · have : fo = false := by rw [hfo, e1]; decide
    subst this
    rw [if_pos e1, if_pos e1, hx.1]
  · have hk0 : 0 ≤ k := by
      rw [i_le, il_m1] at hk
      rw [i_eq, il_m1] at e1
      rw [i_le, il_0]; omega
    have : fo = true := by rw [hfo]; exact decide_eq_true hk0
    subst this
    rw [if_neg e1, if_neg e1]
    have hr := lF_rel (nb := nb) (n := nw) (H := H) (dr := dr) (m := nw) (j := 0) (ρ := fun _ => 0) (s := (0, fun _ => 0)) (t := (0, fun _ => 0)) (Or.inl ⟨rfl, rfl⟩)
    have hc := enum_cnt (nb := nb) (n := nw) (H := H) (dr := dr) (fo := true) (m := nw) (j := 0) (ρ := fun _ => 0) (s := (0, fun _ => 0))
    have hrw := enumL_row (nb := nb) (n := nw) (H := H) (dr := dr) (fo := true) (m := nw) (j := 0) (ρ := fun _ => 0) (s := (0, fun _ => 0)) (by omega) (fun i hi => absurd hi (Nat.not_lt_zero _)) (fun i _ => Nat.zero_le _)
    have hpw := pw_small (nb + 1) (by omega) nw hnw
    generalize enum (nb + 1) (lF nb nw H dr true) nw 0 (fun _ => 0) (0, fun _ => 0) = S at hr hc hrw hx
    generalize enum (nb + 1) (lF nb nw H dr false) nw 0 (fun _ => 0) (0, fun _ => 0) = S' at hr
    obtain ⟨x1, x2⟩ := hx
    rcases hr with ⟨r1, r2⟩ | ⟨r1, r2, r3⟩
    · rw [lIs_0 r2, if_pos (by rw [x1, r1]; rfl)]
    · have hc' : S.1 ≤ 10000 := by have : S.1 ≤ 0 + (nb + 1) ^ nw := hc; omega
      rw [if_neg (by rw [x1]; exact nI_ne0 (by omega) (by omega))]
      unfold lIs
      by_cases e4 : 0 ≤ k ∧ k < NW
      · obtain ⟨j, hj, rfl⟩ := in_nI tw (by omega) e4
        have cj : (nI j).toNatClampNeg = j := nI_clamp (by omega)
        have hr := hrw j hj
        have e5 : (0 : Int32) ≤ nI (S.2 j) := by rw [i_le, il_0, nI_toInt (by omega)]; omega
        rw [cj, (x2.resolve_left (by omega)) j hj, ← r3]
        by_cases e6 : S.2 j < nb
        · rw [if_pos ⟨r2, ⟨e4.1, by rw [nI_ofT tw (by omega)] at e4; exact e4.2⟩, e6⟩, if_pos ⟨e4, e5, by rw [i_lt, tb, nI_toInt (by omega)]; omega⟩]
        · rw [if_neg (fun z => e6 z.2.2), if_neg (fun z => e6 (by have := z.2.2; rw [i_lt, tb, nI_toInt (by omega)] at this; omega))]
      · rw [if_neg (fun z => e4 (by rw [nI_ofT tw (by omega)]; exact z.2.1)), if_neg (fun z => e4 z.1)]
theorem Inv.junkZ {w w2 : mW} {A : List Nat} {F : List (Nat × Nat)} (hI : Inv w) (hS2 : Shape w2) (g : Gr A F w w2) (hA : ∀ a ∈ dA, a ∉ A) (hF : ∀ a ∈ dF, a ∉ F) (hA2 : ∀ a ∈ [41, 42, 43, 66, 67, 68], a ∉ A) (hF2 : ∀ a ∈ [(40, 3), (44, 32)], a ∉ F) (hA3 : ∀ a ∈ [2, 3, 4, 45, 46, 47], a ∉ A) (hF3 : ∀ a ∈ [(44, 1), (0, 7)], a ∉ F) (hf : fld w2 44 0 = fld w2 0 8) : Inv w2 := by
  obtain ⟨hS, nb, nw, nr, hD, hR, hSI, hT⟩ := hI
  refine ⟨hS2, nb, nw, nr, hD.gr g hA hF, hR.gr g hA2 hF2, hSI.gr g hA3, hf, ?_⟩
  rw [g.2 44 1 (hF3 _ (by decide)), g.2 0 7 (hF3 _ (by decide))]; exact hT.2
theorem xLW_gr {w : mW} {row fi left lat : Nat → Int32} {wy : Int32} : Gr [35, 36, 37, 38, 39, 63] [(0, 8), (34, 5), (34, 6), (44, 0)] w (xLW w row fi left lat wy) := ((((Gr.rf.stA (by decide) _).stA (by decide) _).stA (by decide) _).stA (by decide) _).stF (by decide) _
theorem both_lain {w : mW} (hI : Inv w) (sh l i k : Int32) : Both kX7_lain kX8_lain [.int sh, .int l, .int i, .int k] w := by
  intro d
  obtain ⟨hS, nb, nw, nr, hD, hR, hSI, hT⟩ := id hI; obtain ⟨h1, h2, h3, tb, tw, hB, hW, ⟨e1, e2, e3⟩, f8, f9, f10, f11, f12, f13, f14, f15, f16⟩ := id hD
  have hS1 : ∀ x, Shape (setF w 0 8 x) := fun x => hS.stF rfl rfl _
  have g0 : ∀ x, Gr [] [(0, 8)] w (setF w 0 8 x) := fun x => Gr.rf.stF (by decide) _
  have e4 : (-1 ≤ k ∧ k < 5) ↔ (-1 ≤ k ∧ k ≤ 4) := by
    refine and_congr Iff.rfl ?_
    rw [i_lt, i_le, il_4, il_5]; omega
  have e3' : (0 ≤ sh ∧ sh < 4) ↔ (0 ≤ sh ∧ sh ≤ 3) := by
    refine and_congr Iff.rfl ?_
    rw [i_lt, i_le, il_4, il_3]; omega
  have e0 : 0 < fld w 7 0 ↔ ¬ fld w 44 5 = 0 := by
    rw [e1, i_lt, i_eq, il_0, tb]; omega
  by_cases hc : (0 ≤ sh ∧ sh < 4) ∧ ((0 ≤ l ∧ l ≤ 2) ∧ (-1 ≤ k ∧ k < 5)) ∧ 0 < fld w 7 0
  · obtain ⟨hsh, hc⟩ := hc
    obtain ⟨s, hs, rfl⟩ := in_nI (x := 4) (n := 4) rfl (by omega) hsh
    have ew := nI_ofT tw (by omega)
    have hag : agE (arr w 45 s) (arr w 46 s) l i (fld w 7 1) = lFt w s l i (fld w 7 1) := by
      rw [agE_eq hSI hs, if_neg (c := fld w 7 1 < 0) (by rw [i_lt, il_0, tw]; omega)]; rfl
    by_cases hf : lFt w s l i (fld w 7 1) = 0
    · have ha1 : fRow (arr w 2 s) l = 0 := by
        unfold lFt at hf
        by_cases z : fRow (arr w 2 s) l = 0
        · exact z
        · rw [if_pos z] at hf; exact hf
      have ha2 : fCells (arr w 3 s) i (nI nw) = 0 := by
        unfold lFt at hf
        rw [if_neg (not_not_intro ha1), ew] at hf; exact hf
      rcases hSI.at hs with ⟨q1, q2⟩ | ⟨q1, q2, q3, n, q4, q5, q6, q7⟩
      · exact absurd ha1 (by unfold fRow; rw [if_pos q1]; decide)
      · have hfc := ha2
        unfold fCells at hfc
        have hin : 0 ≤ i.toInt ∧ 0 ≤ (nI nw).toInt ∧ i.toInt + (nI nw).toInt ≤ (arr w 3 s).toInt := by
          by_cases z : 0 ≤ i.toInt ∧ 0 ≤ (nI nw).toInt ∧ i.toInt + (nI nw).toInt ≤ (arr w 3 s).toInt
          · exact z
          · rw [if_neg z] at hfc; exact absurd hfc (by decide)
        rw [q5, nI_toInt (by omega), nI_toInt (by omega)] at hin
        obtain ⟨i0, hi0, rfl⟩ := nI_of (x := i) (by rw [i_lt, il_0]; omega)
        rw [nI_toInt hi0] at hin
        have hi : i0 + nw ≤ n := by omega
        have hH : ∀ b, b < nb → holdsE (arr w 8 b) (arr w 9 b) = nI (holdsE (arr w 8 b) (arr w 9 b)).toNatClampNeg ∧ (holdsE (arr w 8 b) (arr w 9 b)).toNatClampNeg ≤ 8 := fun b hb => by
          obtain ⟨H, z1, z2, z3⟩ := holds_H (hB b hb).1 (hB b hb).2.1
          rw [z3, nI_clamp (by omega)]; exact ⟨rfl, z2⟩
        refine mC.mono (c_X7_lain_m (d := d + 6) (fo := decide (0 ≤ k)) (H := fun b => (holdsE (arr w 8 b) (arr w 9 b)).toNatClampNeg) rfl hS hs hc tb h1 tw h2 ha1 ha2 q5 q4 hi hH) ?_
        rintro _ w1 ⟨row, fi, left, lat, wy, hx, rfl, hq⟩
        have hSL : Shape (setF (lW1 w s i0 nw) 34 6 (b2 (decide (0 ≤ k) = true))) := ((hS1 _).stA _ _).stF rfl rfl _
        have g : Gr [35, 36, 37, 38, 39, 63] [(0, 8), (34, 5), (34, 6), (44, 0)] w w1 := by rw [hq]; exact (((Gr.rf.stF (by decide) _).stA (by decide) _).stF (by decide) _).tr xLW_gr
        have hSw1 : Shape w1 := by rw [hq]; exact xLW_S hSL
        have hf1 : fld w1 0 8 = 0 := by rw [hq, xLW_f (by decide), fld_setF_a (by decide), fld_setA, fld_setF hS rfl rfl]
        refine mC.mono (c_X8_lain_m (d := d + 15) (w := w1) (l := l) (k := k) (s := s) (i0 := i0) (nb := nb) (nw := nw) (H := fun b => (holdsE (arr w 8 b) (arr w 9 b)).toNatClampNeg) hSw1 hs ⟨⟨hc.1.1, e4.mp hc.1.2⟩, by rw [g.2 44 5 (by decide)]; exact e0.mp hc.2⟩ (by rw [g.2 44 5 (by decide), e1]; exact tb) h1 (by rw [g.2 44 6 (by decide), e2]; exact tw) h2 (by rw [g.1 45 (by decide), g.1 46 (by decide), ← ew, hag]; exact hf) (by omega) (by rw [g.1 48 (by decide), f8]; exact fun b hb => (hB b hb).1) (by rw [g.1 48 (by decide), g.1 49 (by decide), f8, f9]; exact hH)) ?_
        rw [g.1 47 (by decide), enum_all (by omega) lF_ext (fun _ => 0)]
        rintro _ w2 ⟨rfl, row', hq2⟩
        have g2 : Gr [35, 36, 37, 38, 39, 63] [(0, 8), (34, 5), (34, 6), (44, 0)] w1 w2 := by rw [hq2]; exact (Gr.rf.stF (by decide) _).stA (by decide) _
        refine ⟨?_, hI.junkZ (by rw [hq2]; exact (hSw1.stF rfl rfl _).stA _ _) (g.tr g2) (by decide) (by decide) (by decide) (by decide) (by decide) (by decide) ?_⟩
        · rw [lAns_eq (NB := fld w 7 0) (NW := nI nw) (fo := decide (0 ≤ k)) rfl tb h1 (nI_toInt (by omega)) h2 hc.1.2.1 (fun t ht => ?_) hx]
          show tkI nw _ _ t = _
          unfold tkI
          rw [if_pos ht, Nat.add_assoc, q7 (i0 + t) (by omega)]
        · rw [hq2, fld_setA, fld_setF hSw1 rfl rfl, fld_setA, fld_setF_a (by decide), hf1]
    · refine mC.mono (c_X7_lain_f (d := d + 17) hS hs hc hf) ?_
      rintro _ w1 ⟨rfl, hq⟩
      have g : Gr [] [(0, 8)] w w1 := by rw [hq]; exact g0 _
      have hSw1 : Shape w1 := by rw [hq]; exact hS1 _
      refine mC.mono (c_X8_lain_f (d := d + 18) hSw1 hs ⟨⟨hc.1.1, e4.mp hc.1.2⟩, by rw [g.2 44 5 (by decide)]; exact e0.mp hc.2⟩ (by rw [g.1 45 (by decide), g.1 46 (by decide), g.2 44 6 (by decide), e2, hag]; exact hf)) ?_
      rw [g.1 45 (by decide), g.1 46 (by decide), g.2 44 6 (by decide), e2, hag]
      rintro _ w2 ⟨rfl, hq2⟩
      exact ⟨rfl, hI.fault hq hq2⟩
  · refine mC.mono (c_X7_lain_no (d := d + 18) hS hc) ?_
    rintro _ w1 ⟨rfl, hq⟩
    subst hq
    refine mC.mono (c_X8_lain_no (d := d + 18) (hS1 _) (by rw [(g0 _).2 44 5 (by decide)]; exact fun z => hc ⟨e3'.mpr z.1, ⟨z.2.1.1, e4.mpr z.2.1.2⟩, e0.mpr z.2.2⟩)) ?_
    simp only [e3', e4]
    rintro _ w2 ⟨rfl, hq⟩
    exact ⟨rfl, hI.fault rfl hq⟩

