-- down: the class's call
def dFt (w : mW) (s : Nat) (l i n : Int32) : Int32 := if fRow (arr w 2 s) l ≠ 0 then fRow (arr w 2 s) l else if n < 0 then 4 else fCells (arr w 3 s) i n
theorem c_X7_down_no {d : Nat} {w : mW} {sh l i n : Int32} (hS : Shape w) (h : ¬ ((0 ≤ sh ∧ sh < 4) ∧ (0 ≤ l ∧ l ≤ 2))) : mC (d + 2) kX7_down [.ref 0, .int sh, .int l, .int i, .int n] w (fun r w' => r = some (.int (if 0 ≤ sh ∧ sh < 4 then -2 else -1)) ∧ w' = setF w 0 8 0) := by
  refine mC.of (L := [_, _, _, _, _, _]) okX7_down 1 rfl rfl ?_
  refine x_aload_n (pc := 0) (i := 0) dX7_down_0 rfl rfl ?_
  refine x_iconst (pc := 1) (v := 0) dX7_down_1 (by decide) ?_
  refine x_putI (pc := 2) hS fX7_64 dX7_down_2 rfl rfl rfl rfl (fun hS => ?_)
  refine x_iload_n (pc := 5) (i := 1) dX7_down_5 rfl rfl ?_
  refine x_ss (pc := 6) (As := [_]) rfl lX7_67 dX7_down_6 rfl (Nat.le_of_ble_eq_true rfl) c_X5_isSheet ?_
  rintro _ _ ⟨rfl, hq⟩
  obtain rfl := hq.symm
  refine x_pushI ?_
  refine x_if_ne (pc := 9) (tgt := 14) dX7_down_9 (by decide) (fun h9 => ?_) (fun h9 => ?_)
  · refine x_iload_n (pc := 14) (i := 2) dX7_down_14 rfl rfl ?_
    refine x_ss (pc := 15) (As := [_]) rfl lX7_71 dX7_down_15 rfl (Nat.le_of_ble_eq_true rfl) c_X7_isLane ?_
    rintro _ _ ⟨rfl, hq⟩
    obtain rfl := hq.symm
    refine x_pushI ?_
    refine x_if_ne (pc := 18) (tgt := 24) dX7_down_18 (by decide) (fun h18 => ?_) (fun h18 => ?_)
    · exact absurd ⟨b2_n0.mp h9, b2_n0.mp h18⟩ h
    · refine x_bipush (pc := 21) (v := (-2)) dX7_down_21 (by decide) ?_
      refine x_ri (pc := 23) dX7_down_23 rfl rfl ?_
      exact ⟨by rw [if_pos (b2_n0.mp h9)], rfl⟩
  · refine x_iconst (pc := 12) (v := (-1)) dX7_down_12 (by decide) ?_
    refine x_ri (pc := 13) dX7_down_13 rfl rfl ?_
    exact ⟨by rw [if_neg (b2_e0.mp h9)], rfl⟩
theorem down_76 {d : Nat} {w : mW} {sh l i n x : Int32} {Q : Option Value → mW → Prop} (hS0 : Shape w) (hx : ¬ x = 0) (hq : Q (some (.int (-10 - x))) (setF w 0 8 x)) : mJ mX0 (d + 4) kX7_down Q 76 [.ref 0, .int sh, .int l, .int i, .int n, .null] [] (setF w 0 8 x) := by
  have hS : Shape (setF w 0 8 x) := hS0.stF rfl rfl _
  refine x_aload_n (pc := 76) (i := 0) dX7_down_76 rfl rfl ?_
  refine x_getI (pc := 77) hS fX7_64 dX7_down_77 rfl rfl ?_
  rw [fld_setF hS0 rfl rfl]
  refine x_if_eq (pc := 80) (tgt := 91) dX7_down_80 (by decide) (fun h80 => absurd h80 (by exact hx)) (fun h80 => ?_)
  refine x_bipush (pc := 83) (v := (-10)) dX7_down_83 (by decide) ?_
  refine x_aload_n (pc := 85) (i := 0) dX7_down_85 rfl rfl ?_
  refine x_getI (pc := 86) hS fX7_64 dX7_down_86 rfl rfl ?_
  rw [fld_setF hS0 rfl rfl]
  refine x_isub (pc := 89) dX7_down_89 ?_
  refine x_ri (pc := 90) dX7_down_90 rfl rfl ?_
  exact hq
theorem c_X7_down_f {d : Nat} {w : mW} {l i n : Int32} {s : Nat} (hS0 : Shape w) (hs : s < 4) (h : 0 ≤ l ∧ l ≤ 2) (ha : ¬ dFt w s l i n = 0) : mC (d + 4) kX7_down [.ref 0, .int (nI s), .int l, .int i, .int n] w (fun r w' => r = some (.int (-10 - dFt w s l i n)) ∧ w' = setF w 0 8 (dFt w s l i n)) := by
  have hS := hS0
  unfold dFt at ha ⊢
  by_cases z1 : fRow (arr w 2 s) l = 0
  · rw [if_neg (not_not_intro z1)] at ha ⊢
    by_cases z2 : n < 0
    · rw [if_pos z2] at ha ⊢
      refine mC.of (L := [_, _, _, _, _, _]) okX7_down 1 rfl rfl ?_
      refine x_aload_n (pc := 0) (i := 0) dX7_down_0 rfl rfl ?_
      refine x_iconst (pc := 1) (v := 0) dX7_down_1 (by decide) ?_
      refine x_putI (pc := 2) hS fX7_64 dX7_down_2 rfl rfl rfl rfl (fun hS => ?_)
      refine x_iload_n (pc := 5) (i := 1) dX7_down_5 rfl rfl ?_
      refine x_ss (pc := 6) (As := [_]) rfl lX7_67 dX7_down_6 rfl (Nat.le_of_ble_eq_true rfl) c_X5_isSheet ?_
      rintro _ _ ⟨rfl, hq⟩
      obtain rfl := hq.symm
      refine x_pushI ?_
      refine x_if_ne (pc := 9) (tgt := 14) dX7_down_9 (by decide) (fun h9 => ?_) (fun h9 => absurd h9 (by rw [b2_n0]; exact k4 hs))
      refine x_iload_n (pc := 14) (i := 2) dX7_down_14 rfl rfl ?_
      refine x_ss (pc := 15) (As := [_]) rfl lX7_71 dX7_down_15 rfl (Nat.le_of_ble_eq_true rfl) c_X7_isLane ?_
      rintro _ _ ⟨rfl, hq⟩
      obtain rfl := hq.symm
      refine x_pushI ?_
      refine x_if_ne (pc := 18) (tgt := 24) dX7_down_18 (by decide) (fun h18 => ?_) (fun h18 => absurd h18 (by rw [b2_n0]; exact h))
      refine x_aload_n (pc := 24) (i := 0) dX7_down_24 rfl rfl ?_
      refine x_aload_n (pc := 25) (i := 0) dX7_down_25 rfl rfl ?_
      refine x_getR (pc := 26) hS fX7_12 dX7_down_26 rfl rfl ?_
      refine x_iload_n (pc := 29) (i := 1) dX7_down_29 rfl rfl ?_
      refine x_iload_n (pc := 30) (i := 2) dX7_down_30 rfl rfl ?_
      refine x_vs (pc := 31) (As := [_, _]) rfl hS lX7_74 dX7_down_31 rfl rfl (Nat.le_of_ble_eq_true rfl) (c_X5_faultOfRow hS hs) ?_
      rintro _ _ ⟨rfl, hq⟩
      obtain rfl := hq.symm
      refine x_pushI ?_
      rw [arr_setF, z1]
      refine x_putI (pc := 34) hS fX7_64 dX7_down_34 rfl rfl rfl rfl (fun hS => ?_)
      rw [setF_setF]
      have hS : Shape (setF w 0 8 0) := hS0.stF rfl rfl _
      refine x_aload_n (pc := 37) (i := 0) dX7_down_37 rfl rfl ?_
      refine x_getI (pc := 38) hS fX7_64 dX7_down_38 rfl rfl ?_
      rw [fld_setF hS0 rfl rfl]
      refine x_if_ne (pc := 41) (tgt := 54) dX7_down_41 (by decide) (fun h41 => absurd h41 (by exact not_not_intro rfl)) (fun h41 => ?_)
      refine x_iload (pc := 44) dX7_down_44 rfl ?_
      refine x_if_ge (pc := 46) (tgt := 54) dX7_down_46 (by decide) (fun h46 => absurd h46 (by exact Int32.not_le.mpr z2)) (fun h46 => ?_)
      refine x_aload_n (pc := 49) (i := 0) dX7_down_49 rfl rfl ?_
      refine x_iconst (pc := 50) (v := 4) dX7_down_50 (by decide) ?_
      refine x_putI (pc := 51) hS fX7_64 dX7_down_51 rfl rfl rfl rfl (fun hS => ?_)
      rw [setF_setF]
      have hS : Shape (setF w 0 8 4) := hS0.stF rfl rfl _
      refine x_aload_n (pc := 54) (i := 0) dX7_down_54 rfl rfl ?_
      refine x_getI (pc := 55) hS fX7_64 dX7_down_55 rfl rfl ?_
      rw [fld_setF hS0 rfl rfl]
      refine x_if_ne (pc := 58) (tgt := 76) dX7_down_58 (by decide) (fun h58 => ?_) (fun h58 => absurd h58 (by decide))
      exact down_76 hS0 ha ⟨rfl, rfl⟩
    · rw [if_neg z2] at ha ⊢
      refine mC.of (L := [_, _, _, _, _, _]) okX7_down 1 rfl rfl ?_
      refine x_aload_n (pc := 0) (i := 0) dX7_down_0 rfl rfl ?_
      refine x_iconst (pc := 1) (v := 0) dX7_down_1 (by decide) ?_
      refine x_putI (pc := 2) hS fX7_64 dX7_down_2 rfl rfl rfl rfl (fun hS => ?_)
      refine x_iload_n (pc := 5) (i := 1) dX7_down_5 rfl rfl ?_
      refine x_ss (pc := 6) (As := [_]) rfl lX7_67 dX7_down_6 rfl (Nat.le_of_ble_eq_true rfl) c_X5_isSheet ?_
      rintro _ _ ⟨rfl, hq⟩
      obtain rfl := hq.symm
      refine x_pushI ?_
      refine x_if_ne (pc := 9) (tgt := 14) dX7_down_9 (by decide) (fun h9 => ?_) (fun h9 => absurd h9 (by rw [b2_n0]; exact k4 hs))
      refine x_iload_n (pc := 14) (i := 2) dX7_down_14 rfl rfl ?_
      refine x_ss (pc := 15) (As := [_]) rfl lX7_71 dX7_down_15 rfl (Nat.le_of_ble_eq_true rfl) c_X7_isLane ?_
      rintro _ _ ⟨rfl, hq⟩
      obtain rfl := hq.symm
      refine x_pushI ?_
      refine x_if_ne (pc := 18) (tgt := 24) dX7_down_18 (by decide) (fun h18 => ?_) (fun h18 => absurd h18 (by rw [b2_n0]; exact h))
      refine x_aload_n (pc := 24) (i := 0) dX7_down_24 rfl rfl ?_
      refine x_aload_n (pc := 25) (i := 0) dX7_down_25 rfl rfl ?_
      refine x_getR (pc := 26) hS fX7_12 dX7_down_26 rfl rfl ?_
      refine x_iload_n (pc := 29) (i := 1) dX7_down_29 rfl rfl ?_
      refine x_iload_n (pc := 30) (i := 2) dX7_down_30 rfl rfl ?_
      refine x_vs (pc := 31) (As := [_, _]) rfl hS lX7_74 dX7_down_31 rfl rfl (Nat.le_of_ble_eq_true rfl) (c_X5_faultOfRow hS hs) ?_
      rintro _ _ ⟨rfl, hq⟩
      obtain rfl := hq.symm
      refine x_pushI ?_
      rw [arr_setF, z1]
      refine x_putI (pc := 34) hS fX7_64 dX7_down_34 rfl rfl rfl rfl (fun hS => ?_)
      rw [setF_setF]
      have hS : Shape (setF w 0 8 0) := hS0.stF rfl rfl _
      refine x_aload_n (pc := 37) (i := 0) dX7_down_37 rfl rfl ?_
      refine x_getI (pc := 38) hS fX7_64 dX7_down_38 rfl rfl ?_
      rw [fld_setF hS0 rfl rfl]
      refine x_if_ne (pc := 41) (tgt := 54) dX7_down_41 (by decide) (fun h41 => absurd h41 (by exact not_not_intro rfl)) (fun h41 => ?_)
      refine x_iload (pc := 44) dX7_down_44 rfl ?_
      refine x_if_ge (pc := 46) (tgt := 54) dX7_down_46 (by decide) (fun h46 => ?_) (fun h46 => absurd h46 (by exact not_not_intro (Int32.not_lt.mp z2)))
      have hS := hS
      refine x_aload_n (pc := 54) (i := 0) dX7_down_54 rfl rfl ?_
      refine x_getI (pc := 55) hS fX7_64 dX7_down_55 rfl rfl ?_
      rw [fld_setF hS0 rfl rfl]
      refine x_if_ne (pc := 58) (tgt := 76) dX7_down_58 (by decide) (fun h58 => absurd h58 (by exact not_not_intro rfl)) (fun h58 => ?_)
      refine x_aload_n (pc := 61) (i := 0) dX7_down_61 rfl rfl ?_
      refine x_aload_n (pc := 62) (i := 0) dX7_down_62 rfl rfl ?_
      refine x_getR (pc := 63) hS fX7_12 dX7_down_63 rfl rfl ?_
      refine x_iload_n (pc := 66) (i := 1) dX7_down_66 rfl rfl ?_
      refine x_iload_n (pc := 67) (i := 3) dX7_down_67 rfl rfl ?_
      refine x_iload (pc := 68) dX7_down_68 rfl ?_
      refine x_vs (pc := 70) (As := [_, _, _]) rfl hS lX7_78 dX7_down_70 rfl rfl (Nat.le_of_ble_eq_true rfl) (c_X5_faultOfCells hS hs) ?_
      rintro _ _ ⟨rfl, hq⟩
      obtain rfl := hq.symm
      refine x_pushI ?_
      rw [arr_setF]
      refine x_putI (pc := 73) hS fX7_64 dX7_down_73 rfl rfl rfl rfl (fun hS => ?_)
      rw [setF_setF]
      exact down_76 hS0 ha ⟨rfl, rfl⟩
  · rw [if_pos z1] at ha ⊢
    refine mC.of (L := [_, _, _, _, _, _]) okX7_down 1 rfl rfl ?_
    refine x_aload_n (pc := 0) (i := 0) dX7_down_0 rfl rfl ?_
    refine x_iconst (pc := 1) (v := 0) dX7_down_1 (by decide) ?_
    refine x_putI (pc := 2) hS fX7_64 dX7_down_2 rfl rfl rfl rfl (fun hS => ?_)
    refine x_iload_n (pc := 5) (i := 1) dX7_down_5 rfl rfl ?_
    refine x_ss (pc := 6) (As := [_]) rfl lX7_67 dX7_down_6 rfl (Nat.le_of_ble_eq_true rfl) c_X5_isSheet ?_
    rintro _ _ ⟨rfl, hq⟩
    obtain rfl := hq.symm
    refine x_pushI ?_
    refine x_if_ne (pc := 9) (tgt := 14) dX7_down_9 (by decide) (fun h9 => ?_) (fun h9 => absurd h9 (by rw [b2_n0]; exact k4 hs))
    refine x_iload_n (pc := 14) (i := 2) dX7_down_14 rfl rfl ?_
    refine x_ss (pc := 15) (As := [_]) rfl lX7_71 dX7_down_15 rfl (Nat.le_of_ble_eq_true rfl) c_X7_isLane ?_
    rintro _ _ ⟨rfl, hq⟩
    obtain rfl := hq.symm
    refine x_pushI ?_
    refine x_if_ne (pc := 18) (tgt := 24) dX7_down_18 (by decide) (fun h18 => ?_) (fun h18 => absurd h18 (by rw [b2_n0]; exact h))
    refine x_aload_n (pc := 24) (i := 0) dX7_down_24 rfl rfl ?_
    refine x_aload_n (pc := 25) (i := 0) dX7_down_25 rfl rfl ?_
    refine x_getR (pc := 26) hS fX7_12 dX7_down_26 rfl rfl ?_
    refine x_iload_n (pc := 29) (i := 1) dX7_down_29 rfl rfl ?_
    refine x_iload_n (pc := 30) (i := 2) dX7_down_30 rfl rfl ?_
    refine x_vs (pc := 31) (As := [_, _]) rfl hS lX7_74 dX7_down_31 rfl rfl (Nat.le_of_ble_eq_true rfl) (c_X5_faultOfRow hS hs) ?_
    rintro _ _ ⟨rfl, hq⟩
    obtain rfl := hq.symm
    refine x_pushI ?_
    rw [arr_setF]
    refine x_putI (pc := 34) hS fX7_64 dX7_down_34 rfl rfl rfl rfl (fun hS => ?_)
    rw [setF_setF]
    have hS : Shape (setF w 0 8 (fRow (arr w 2 s) l)) := hS0.stF rfl rfl _
    refine x_aload_n (pc := 37) (i := 0) dX7_down_37 rfl rfl ?_
    refine x_getI (pc := 38) hS fX7_64 dX7_down_38 rfl rfl ?_
    rw [fld_setF hS0 rfl rfl]
    refine x_if_ne (pc := 41) (tgt := 54) dX7_down_41 (by decide) (fun h41 => ?_) (fun h41 => absurd h41 (by exact z1))
    refine x_aload_n (pc := 54) (i := 0) dX7_down_54 rfl rfl ?_
    refine x_getI (pc := 55) hS fX7_64 dX7_down_55 rfl rfl ?_
    rw [fld_setF hS0 rfl rfl]
    refine x_if_ne (pc := 58) (tgt := 76) dX7_down_58 (by decide) (fun h58 => ?_) (fun h58 => absurd h58 (by exact z1))
    exact down_76 hS0 ha ⟨rfl, rfl⟩
theorem down_91 {d : Nat} {w : mW} {l i n : Int32} {s : Nat} {Q : Option Value → mW → Prop} (hS0 : Shape w) (hs : s < 4) (h : 0 ≤ l ∧ l ≤ 2) (z1 : fRow (arr w 2 s) l = 0) (z2 : ¬ n < 0) (z3 : fCells (arr w 3 s) i n = 0) (k : mJ mX0 (d + 4) kX7_down Q 91 [.ref 0, .int (nI s), .int l, .int i, .int n, .null] [] (setF w 0 8 0)) : mC (d + 4) kX7_down [.ref 0, .int (nI s), .int l, .int i, .int n] w Q := by
  have hS := hS0
  refine mC.of (L := [_, _, _, _, _, _]) okX7_down 1 rfl rfl ?_
  refine x_aload_n (pc := 0) (i := 0) dX7_down_0 rfl rfl ?_
  refine x_iconst (pc := 1) (v := 0) dX7_down_1 (by decide) ?_
  refine x_putI (pc := 2) hS fX7_64 dX7_down_2 rfl rfl rfl rfl (fun hS => ?_)
  refine x_iload_n (pc := 5) (i := 1) dX7_down_5 rfl rfl ?_
  refine x_ss (pc := 6) (As := [_]) rfl lX7_67 dX7_down_6 rfl (Nat.le_of_ble_eq_true rfl) c_X5_isSheet ?_
  rintro _ _ ⟨rfl, hq⟩
  obtain rfl := hq.symm
  refine x_pushI ?_
  refine x_if_ne (pc := 9) (tgt := 14) dX7_down_9 (by decide) (fun h9 => ?_) (fun h9 => absurd h9 (by rw [b2_n0]; exact k4 hs))
  refine x_iload_n (pc := 14) (i := 2) dX7_down_14 rfl rfl ?_
  refine x_ss (pc := 15) (As := [_]) rfl lX7_71 dX7_down_15 rfl (Nat.le_of_ble_eq_true rfl) c_X7_isLane ?_
  rintro _ _ ⟨rfl, hq⟩
  obtain rfl := hq.symm
  refine x_pushI ?_
  refine x_if_ne (pc := 18) (tgt := 24) dX7_down_18 (by decide) (fun h18 => ?_) (fun h18 => absurd h18 (by rw [b2_n0]; exact h))
  refine x_aload_n (pc := 24) (i := 0) dX7_down_24 rfl rfl ?_
  refine x_aload_n (pc := 25) (i := 0) dX7_down_25 rfl rfl ?_
  refine x_getR (pc := 26) hS fX7_12 dX7_down_26 rfl rfl ?_
  refine x_iload_n (pc := 29) (i := 1) dX7_down_29 rfl rfl ?_
  refine x_iload_n (pc := 30) (i := 2) dX7_down_30 rfl rfl ?_
  refine x_vs (pc := 31) (As := [_, _]) rfl hS lX7_74 dX7_down_31 rfl rfl (Nat.le_of_ble_eq_true rfl) (c_X5_faultOfRow hS hs) ?_
  rintro _ _ ⟨rfl, hq⟩
  obtain rfl := hq.symm
  refine x_pushI ?_
  rw [arr_setF, z1]
  refine x_putI (pc := 34) hS fX7_64 dX7_down_34 rfl rfl rfl rfl (fun hS => ?_)
  rw [setF_setF]
  have hS : Shape (setF w 0 8 0) := hS0.stF rfl rfl _
  refine x_aload_n (pc := 37) (i := 0) dX7_down_37 rfl rfl ?_
  refine x_getI (pc := 38) hS fX7_64 dX7_down_38 rfl rfl ?_
  rw [fld_setF hS0 rfl rfl]
  refine x_if_ne (pc := 41) (tgt := 54) dX7_down_41 (by decide) (fun h41 => absurd h41 (by exact not_not_intro rfl)) (fun h41 => ?_)
  refine x_iload (pc := 44) dX7_down_44 rfl ?_
  refine x_if_ge (pc := 46) (tgt := 54) dX7_down_46 (by decide) (fun h46 => ?_) (fun h46 => absurd h46 (by exact not_not_intro (Int32.not_lt.mp z2)))
  refine x_aload_n (pc := 54) (i := 0) dX7_down_54 rfl rfl ?_
  refine x_getI (pc := 55) hS fX7_64 dX7_down_55 rfl rfl ?_
  rw [fld_setF hS0 rfl rfl]
  refine x_if_ne (pc := 58) (tgt := 76) dX7_down_58 (by decide) (fun h58 => absurd h58 (by exact not_not_intro rfl)) (fun h58 => ?_)
  refine x_aload_n (pc := 61) (i := 0) dX7_down_61 rfl rfl ?_
  refine x_aload_n (pc := 62) (i := 0) dX7_down_62 rfl rfl ?_
  refine x_getR (pc := 63) hS fX7_12 dX7_down_63 rfl rfl ?_
  refine x_iload_n (pc := 66) (i := 1) dX7_down_66 rfl rfl ?_
  refine x_iload_n (pc := 67) (i := 3) dX7_down_67 rfl rfl ?_
  refine x_iload (pc := 68) dX7_down_68 rfl ?_
  refine x_vs (pc := 70) (As := [_, _, _]) rfl hS lX7_78 dX7_down_70 rfl rfl (Nat.le_of_ble_eq_true rfl) (c_X5_faultOfCells hS hs) ?_
  rintro _ _ ⟨rfl, hq⟩
  obtain rfl := hq.symm
  refine x_pushI ?_
  rw [arr_setF, z3]
  refine x_putI (pc := 73) hS fX7_64 dX7_down_73 rfl rfl rfl rfl (fun hS => ?_)
  rw [setF_setF]
  have hS : Shape (setF w 0 8 0) := hS0.stF rfl rfl _
  refine x_aload_n (pc := 76) (i := 0) dX7_down_76 rfl rfl ?_
  refine x_getI (pc := 77) hS fX7_64 dX7_down_77 rfl rfl ?_
  rw [fld_setF hS0 rfl rfl]
  refine x_if_eq (pc := 80) (tgt := 91) dX7_down_80 (by decide) (fun h80 => ?_) (fun h80 => absurd h80 (by exact not_not_intro rfl))
  exact k
abbrev dnF : List (Nat × Nat) := [(0, 8), (5, 1), (5, 2), (5, 3), (7, 0), (7, 1), (7, 2), (40, 3)]
abbrev dnA : List Nat := [6, 8, 9, 10, 11, 12, 13, 14, 15, 16]
theorem tW_g {w : mW} {b c : Nat} : Gr [6] [(0, 8), (5, 1), (5, 2), (5, 3)] w (tW w b c) := (Gr.rf.stF (by decide) _).stF (by decide) _
theorem down_b {d : Nat} {w : mW} {l : Int32} {s i0 n N t : Nat} (hS0 : Shape w) (hs : s < 4) (hsz : arr w 3 s = nI N) (hN : N ≤ 60) (hi : i0 + n ≤ N) (hb : (fT (tC w s i0 n) n).1 = some t) : mJ mX0 (d + 4) kX7_down (fun r w' => r = some (.int (-100 - nI t)) ∧ Shape w' ∧ Gr [6] [(0, 8), (5, 1), (5, 2), (5, 3)] w w' ∧ fld w' 0 8 = 0) 91 [.ref 0, .int (nI s), .int l, .int (nI i0), .int (nI n), .null] [] (setF w 0 8 0) := by
  have hS : Shape (setF w 0 8 0) := hS0.stF rfl rfl _
  have hld := c_X6_load (d := d) (w := setF w 0 8 0) (s := s) (i0 := i0) (n := n) (N := N) hS hs (by rw [arr_setF]; exact hsz) hN hi
  rw [show tC (setF w 0 8 0) s i0 n = tC w s i0 n from by unfold tC; rw [arr_setF]] at hld
  refine x_aload_n (pc := 91) (i := 0) dX7_down_91 rfl rfl ?_
  refine x_getR (pc := 92) hS fX7_21 dX7_down_92 rfl rfl ?_
  refine x_aload_n (pc := 95) (i := 0) dX7_down_95 rfl rfl ?_
  refine x_getR (pc := 96) hS fX7_12 dX7_down_96 rfl rfl ?_
  refine x_iload_n (pc := 99) (i := 1) dX7_down_99 rfl rfl ?_
  refine x_iload_n (pc := 100) (i := 3) dX7_down_100 rfl rfl ?_
  refine x_iload (pc := 101) dX7_down_101 rfl ?_
  refine x_vs (pc := 103) (As := [_, _, _, _]) rfl hS lX7_82 dX7_down_103 rfl rfl (Nat.le_of_ble_eq_true rfl) hld ?_
  rintro _ w1 ⟨rfl, hT, g1⟩
  have hS := hT.1
  refine x_pushV ?_
  refine x_aload_n (pc := 106) (i := 0) dX7_down_106 rfl rfl ?_
  refine x_getR (pc := 107) hS fX7_21 dX7_down_107 rfl rfl ?_
  refine x_vs (pc := 110) (As := []) rfl hS lX7_86 dX7_down_110 rfl rfl (Nat.le_of_ble_eq_true rfl) (c_X6_firstFault hT) ?_
  rintro _ _ ⟨rfl, hq⟩
  obtain rfl := hq.symm
  have hS := (tW_T (b := (fT (tC w s i0 n) n).2.1) (c := (fT (tC w s i0 n) n).2.2) hT).1
  rw [hb, show fwE (some t) = nI t from rfl]
  refine x_pushI ?_
  refine x_istore (pc := 113) (L' := [_, _, _, _, _, _]) dX7_down_113 (by decide) rfl ?_
  refine x_iload (pc := 115) dX7_down_115 rfl ?_
  refine x_bipush (pc := 117) (v := (-9)) dX7_down_117 (by decide) ?_
  refine x_icmp_eq (pc := 119) (tgt := 128) dX7_down_119 (by decide) (fun h119 => absurd h119 (by exact nI_n9' (by have := fT_le hb; omega))) (fun h119 => ?_)
  refine x_bipush (pc := 122) (v := (-100)) dX7_down_122 (by decide) ?_
  refine x_iload (pc := 124) dX7_down_124 rfl ?_
  refine x_isub (pc := 126) dX7_down_126 ?_
  refine x_ri (pc := 127) dX7_down_127 rfl rfl ?_
  refine ⟨rfl, hS, (Gr.rf.stF (by decide) _).tr ((g1.up (by decide) (by decide)).tr tW_g), ?_⟩
  rw [fld_setF_a (by decide), fld_setF_a (by decide), g1.2 0 8 (by decide), fld_setF hS0 rfl rfl]
def dnP (cd : Nat → Int32) (nb nw : Nat) (w w' : mW) : Prop := Shape w' ∧ Gr dnA dnF w w' ∧ fld w' 0 8 = 0 ∧ fld w' 7 0 = nI nb ∧ fld w' 7 1 = nI nw ∧ fld w' 7 2 = 0 ∧ fld w' 40 3 = 0 ∧ ∀ a, a < 9 → arr w' (8 + a) = tkI (if a < 4 then nb else nw) (vX cd (1 + 5 * nb) a) (arr w (8 + a))
theorem mk_P {w w1 w3 : mW} {cd : Nat → Int32} {nb nw b c : Nat} (hS0 : Shape w) (hS1 : Shape w1) (g1 : Gr [6] [(5, 1)] (setF w 0 8 0) w1) (hC : cpT 9 (vX cd (1 + 5 * nb)) mkD mkA (mkW (tW w1 b c) nb nw) w3 (fun a => if a < 4 then nb else nw)) : dnP cd nb nw w (setF w3 40 3 0) := by
  have g2 : Gr dnA dnF w w3 := ((Gr.rf.stF (by decide) _).tr ((g1.up (by decide) (by decide)).tr (tW_g.up (by decide) (by decide)))).tr ((((Gr.rf.stF (by decide) _).stF (by decide) _).stF (by decide) _).tr (hC.2.1.up (by decide) (by decide)))
  have hSt : Shape (tW w1 b c) := (hS1.stF rfl rfl _).stF rfl rfl _
  refine ⟨hC.1.stF rfl rfl _, g2.stF (by decide) _, ?_, ?_, ?_, ?_, ?_, fun a ha => ?_⟩
  · rw [fld_setF_a (by decide), hC.2.1.2 0 8 (by decide), fld_setF_a (by decide), fld_setF_a (by decide), fld_setF_a (by decide), fld_setF_a (by decide), fld_setF_a (by decide), g1.2 0 8 (by decide), fld_setF hS0 rfl rfl]
  · rw [fld_setF_a (by decide), hC.2.1.2 7 0 (by decide), fld_setF_k (by decide), fld_setF_k (by decide), fld_setF hSt rfl rfl]
  · rw [fld_setF_a (by decide), hC.2.1.2 7 1 (by decide), fld_setF_k (by decide), fld_setF (hSt.stF rfl rfl _) rfl rfl]
  · rw [fld_setF_a (by decide), hC.2.1.2 7 2 (by decide), fld_setF ((hSt.stF rfl rfl _).stF rfl rfl _) rfl rfl]
  · rw [fld_setF hC.1 rfl rfl]
  · have e : arr (mkW (tW w1 b c) nb nw) (8 + a) = arr w (8 + a) := by
      rw [arr_setF, arr_setF, arr_setF, arr_setF, arr_setF, g1.1 (8 + a) (by simp; omega), arr_setF]
    rw [arr_setF, ← e]
    exact hC.2.2 a ha
theorem down_t {d : Nat} {w : mW} {l : Int32} {s i0 n N : Nat} (hS0 : Shape w) (hs : s < 4) (hsz : arr w 3 s = nI N) (hN : N ≤ 60) (hi : i0 + n ≤ N) (hb : (fT (tC w s i0 n) n).1 = none) : mJ mX0 (d + 4) kX7_down (fun r w' => r = some (.int (nI (fT (tC w s i0 n) n).2.1)) ∧ dnP (tC w s i0 n) (fT (tC w s i0 n) n).2.1 (fT (tC w s i0 n) n).2.2 w w') 91 [.ref 0, .int (nI s), .int l, .int (nI i0), .int (nI n), .null] [] (setF w 0 8 0) := by
  have hS : Shape (setF w 0 8 0) := hS0.stF rfl rfl _
  obtain ⟨o1, o2, o3, o4, -, -⟩ := fT_ok hb
  have hld := c_X6_load (d := d) (w := setF w 0 8 0) (s := s) (i0 := i0) (n := n) (N := N) hS hs (by rw [arr_setF]; exact hsz) hN hi
  rw [show tC (setF w 0 8 0) s i0 n = tC w s i0 n from by unfold tC; rw [arr_setF]] at hld
  refine x_aload_n (pc := 91) (i := 0) dX7_down_91 rfl rfl ?_
  refine x_getR (pc := 92) hS fX7_21 dX7_down_92 rfl rfl ?_
  refine x_aload_n (pc := 95) (i := 0) dX7_down_95 rfl rfl ?_
  refine x_getR (pc := 96) hS fX7_12 dX7_down_96 rfl rfl ?_
  refine x_iload_n (pc := 99) (i := 1) dX7_down_99 rfl rfl ?_
  refine x_iload_n (pc := 100) (i := 3) dX7_down_100 rfl rfl ?_
  refine x_iload (pc := 101) dX7_down_101 rfl ?_
  refine x_vs (pc := 103) (As := [_, _, _, _]) rfl hS lX7_82 dX7_down_103 rfl rfl (Nat.le_of_ble_eq_true rfl) hld ?_
  rintro _ w1 ⟨rfl, hT, g1⟩
  have hS := hT.1
  refine x_pushV ?_
  refine x_aload_n (pc := 106) (i := 0) dX7_down_106 rfl rfl ?_
  refine x_getR (pc := 107) hS fX7_21 dX7_down_107 rfl rfl ?_
  refine x_vs (pc := 110) (As := []) rfl hS lX7_86 dX7_down_110 rfl rfl (Nat.le_of_ble_eq_true rfl) (c_X6_firstFault hT) ?_
  rintro _ _ ⟨rfl, hq⟩
  obtain rfl := hq.symm
  have hS := (tW_T (b := (fT (tC w s i0 n) n).2.1) (c := (fT (tC w s i0 n) n).2.2) hT).1
  rw [hb, show fwE none = -9 from rfl]
  refine x_pushI ?_
  refine x_istore (pc := 113) (L' := [_, _, _, _, _, _]) dX7_down_113 (by decide) rfl ?_
  refine x_iload (pc := 115) dX7_down_115 rfl ?_
  refine x_bipush (pc := 117) (v := (-9)) dX7_down_117 (by decide) ?_
  refine x_icmp_eq (pc := 119) (tgt := 128) dX7_down_119 (by decide) (fun h119 => ?_) (fun h119 => absurd h119 (by exact not_not_intro rfl))
  refine x_aload_n (pc := 128) (i := 0) dX7_down_128 rfl rfl ?_
  refine x_getR (pc := 129) hS fX7_21 dX7_down_129 rfl rfl ?_
  refine x_aload_n (pc := 132) (i := 0) dX7_down_132 rfl rfl ?_
  refine x_getR (pc := 133) hS fX7_28 dX7_down_133 rfl rfl ?_
  refine x_vs (pc := 136) (As := [_]) rfl hS lX7_90 dX7_down_136 rfl rfl (Nat.le_of_ble_eq_true rfl) (c_X6_makeAnew (tW_T hT) (tW_2 hT.1) (tW_3 hT.1) o2 o4) ?_
  rintro _ w3 ⟨rfl, hC⟩
  have hS := hC.1
  have hP := mk_P hS0 hT.1 g1 hC
  refine x_pushV ?_
  refine x_aload_n (pc := 139) (i := 0) dX7_down_139 rfl rfl ?_
  refine x_getR (pc := 140) hS fX7_56 dX7_down_140 rfl rfl ?_
  refine x_iconst (pc := 143) (v := 0) dX7_down_143 (by decide) ?_
  refine x_putI (pc := 144) hS fX7_94 dX7_down_144 rfl rfl rfl rfl (fun hS => ?_)
  refine x_aload_n (pc := 147) (i := 0) dX7_down_147 rfl rfl ?_
  refine x_getR (pc := 148) hS fX7_28 dX7_down_148 rfl rfl ?_
  refine x_getI (pc := 151) hS fX7_97 dX7_down_151 rfl rfl ?_
  rw [hP.2.2.2.1]
  refine x_ri (pc := 154) dX7_down_154 rfl rfl ?_
  exact ⟨rfl, hP⟩

