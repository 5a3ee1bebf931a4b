-- tell, haunt, as
theorem setF_setF (w : mW) (a k : Nat) (x y : Int32) : setF (setF w a k x) a k y = setF w a k y := by
  funext j
  unfold setF
  by_cases hj : j = a
  · subst hj
    simp only [if_true]
    cases hw : w j with
    | inl p => rfl
    | inr o => simp [List.set_set]
  · simp only [if_neg hj]
def trT (t : Int32) : List Int32 → Int32
  | [] => t
  | k :: l => trT (31 * t + k) l
theorem c_X7_roundBody {d : Nat} {w : mW} {b nb : Nat} (hS : Shape w) (tb : (fld w 7 0).toInt = (nb : Int)) (hnb : nb ≤ 5) (hb : b < nb) : mC (d + 1) kX7_roundBody [.ref 0, .int (nI b)] w (fun r w' => r = some (.int (arr w 9 b)) ∧ w' = setF w 0 7 (trT (fld w 0 7) [1])) := by
  have tk : (nI b).toInt = (b : Int) := nI_toInt (by omega)
  refine mC.of (L := [_, _]) okX7_roundBody 0 rfl rfl ?_
  refine x_aload_n (pc := 0) (i := 0) dX7_roundBody_0 rfl rfl ?_
  refine x_iconst (pc := 1) (v := 1) dX7_roundBody_1 (by decide) ?_
  refine x_vs (pc := 2) (As := [_]) rfl hS lX7_279 dX7_roundBody_2 rfl rfl (Nat.le_of_ble_eq_true rfl) (c_X7_begin hS) ?_
  rintro _ w1 ⟨rfl, hq⟩
  subst hq
  have hS := hS.stF (a := 0) (k := 7) rfl rfl (31 * fld w 0 7 + 1)
  refine x_pushV ?_
  refine x_aload_n (pc := 5) (i := 0) dX7_roundBody_5 rfl rfl ?_
  refine x_getR (pc := 6) hS fX7_28 dX7_roundBody_6 rfl rfl ?_
  refine x_iload_n (pc := 9) (i := 1) dX7_roundBody_9 rfl rfl ?_
  refine x_vs (pc := 10) (As := [_]) rfl hS lX7_100 dX7_roundBody_10 rfl rfl (Nat.le_of_ble_eq_true rfl) (c_X0_hasBarrow_7 hS) ?_
  rintro _ _ ⟨rfl, hq⟩
  obtain rfl := hq.symm
  refine x_pushI ?_
  refine x_if_eq (pc := 13) (tgt := 28) dX7_roundBody_13 (by decide) (fun h13 => absurd h13 (by rw [b2_e0, fld_setF_a (by decide)]; exact not_not_intro ⟨by (try simp only [b2_e0, b2_n0, Decidable.not_not] at *) <;> (try simp only [i_lt, i_le, i_eq, not_and, not_or, ne_eq, il_0, il_1, il_2, il_3, il_4, il_5, il_6, il_7, il_8, il_9, il_10, il_14, il_15, il_19, il_20, il_24, il_30, il_31, il_44, il_48, il_49, il_52, il_57, il_59, il_60, il_70, il_99, il_100, il_103, il_108, il_114, il_m1, il_m2, il_m3, il_m4, il_m9, il_m10, il_m100] at *) <;> omega, by (try simp only [b2_e0, b2_n0, Decidable.not_not] at *) <;> (try simp only [i_lt, i_le, i_eq, not_and, not_or, ne_eq, il_0, il_1, il_2, il_3, il_4, il_5, il_6, il_7, il_8, il_9, il_10, il_14, il_15, il_19, il_20, il_24, il_30, il_31, il_44, il_48, il_49, il_52, il_57, il_59, il_60, il_70, il_99, il_100, il_103, il_108, il_114, il_m1, il_m2, il_m3, il_m4, il_m9, il_m10, il_m100] at *) <;> omega⟩)) (fun h13 => ?_)
  refine x_aload_n (pc := 16) (i := 0) dX7_roundBody_16 rfl rfl ?_
  refine x_getR (pc := 17) hS fX7_28 dX7_roundBody_17 rfl rfl ?_
  refine x_getR (pc := 20) hS fX7_107 dX7_roundBody_20 rfl rfl ?_
  refine x_iload_n (pc := 23) (i := 1) dX7_roundBody_23 rfl rfl ?_
  refine x_aldN (pc := 24) hS dX7_roundBody_24 rfl (by omega) (by decide) ?_
  refine x_goto (pc := 25) (tgt := 29) dX7_roundBody_25 (by decide) ?_
  refine x_ri (pc := 29) dX7_roundBody_29 rfl rfl ?_
  exact ⟨by rw [arr_setF], rfl⟩
theorem c_X7_longBody {d : Nat} {w : mW} {b nb : Nat} (hS : Shape w) (tb : (fld w 7 0).toInt = (nb : Int)) (hnb : nb ≤ 5) (hb : b < nb) : mC (d + 2) kX7_longBody [.ref 0, .int (nI b)] w (fun r w' => r = some (.int (arr w 9 b + 100)) ∧ w' = setF w 0 7 (trT (fld w 0 7) [2, 1])) := by
  refine mC.of (L := [_, _]) okX7_longBody 0 rfl rfl ?_
  refine x_aload_n (pc := 0) (i := 0) dX7_longBody_0 rfl rfl ?_
  refine x_iconst (pc := 1) (v := 2) dX7_longBody_1 (by decide) ?_
  refine x_vs (pc := 2) (As := [_]) rfl hS lX7_279 dX7_longBody_2 rfl rfl (Nat.le_of_ble_eq_true rfl) (c_X7_begin hS) ?_
  rintro _ w1 ⟨rfl, hq⟩
  subst hq
  have hS1 := hS
  have hS := hS.stF (a := 0) (k := 7) rfl rfl (31 * fld w 0 7 + 2)
  refine x_pushV ?_
  refine x_aload_n (pc := 5) (i := 0) dX7_longBody_5 rfl rfl ?_
  refine x_iload_n (pc := 6) (i := 1) dX7_longBody_6 rfl rfl ?_
  refine x_vs (pc := 7) (As := [_]) rfl hS lX7_264 dX7_longBody_7 rfl rfl (Nat.le_of_ble_eq_true rfl) (c_X7_roundBody hS (by rw [fld_setF_a (by decide)]; exact tb) hnb hb) ?_
  rintro _ _ ⟨rfl, hq⟩
  obtain rfl := hq.symm
  refine x_pushI ?_
  refine x_bipush (pc := 10) (v := 100) dX7_longBody_10 (by decide) ?_
  refine x_iadd (pc := 12) dX7_longBody_12 ?_
  refine x_ri (pc := 13) dX7_longBody_13 rfl rfl ?_
  exact ⟨by rw [arr_setF], by rw [setF_setF, fld_setF hS1 rfl rfl]; rfl⟩
theorem c_X7_ringBody {d : Nat} {w : mW} {b nb : Nat} (hS : Shape w) (tb : (fld w 7 0).toInt = (nb : Int)) (hnb : nb ≤ 5) (hb : b < nb) : mC (d + 3) kX7_ringBody [.ref 0, .int (nI b)] w (fun r w' => r = some (.int (arr w 9 b + 100 + arr w 9 b)) ∧ w' = setF w 0 7 (trT (fld w 0 7) [3, 2, 1, 1])) := by
  refine mC.of (L := [_, _, _]) okX7_ringBody 1 rfl rfl ?_
  refine x_aload_n (pc := 0) (i := 0) dX7_ringBody_0 rfl rfl ?_
  refine x_iconst (pc := 1) (v := 3) dX7_ringBody_1 (by decide) ?_
  refine x_vs (pc := 2) (As := [_]) rfl hS lX7_279 dX7_ringBody_2 rfl rfl (Nat.le_of_ble_eq_true rfl) (c_X7_begin hS) ?_
  rintro _ w1 ⟨rfl, hq⟩
  subst hq
  have hS1 := hS
  have hS := hS.stF (a := 0) (k := 7) rfl rfl (31 * fld w 0 7 + 3)
  refine x_pushV ?_
  refine x_aload_n (pc := 5) (i := 0) dX7_ringBody_5 rfl rfl ?_
  refine x_iload_n (pc := 6) (i := 1) dX7_ringBody_6 rfl rfl ?_
  refine x_vs (pc := 7) (As := [_]) rfl hS lX7_261 dX7_ringBody_7 rfl rfl (Nat.le_of_ble_eq_true rfl) (c_X7_longBody hS (by rw [fld_setF_a (by decide)]; exact tb) hnb hb) ?_
  rintro _ w2 ⟨rfl, hq⟩
  rw [setF_setF, fld_setF hS1 rfl rfl] at hq
  subst hq
  have hS := hS1.stF (a := 0) (k := 7) rfl rfl (trT (31 * fld w 0 7 + 3) [2, 1])
  refine x_pushI ?_
  refine x_istore_n (pc := 10) (i := 2) (L' := [_, _, _]) dX7_ringBody_10 rfl (by decide) rfl ?_
  refine x_iload_n (pc := 11) (i := 2) dX7_ringBody_11 rfl rfl ?_
  refine x_aload_n (pc := 12) (i := 0) dX7_ringBody_12 rfl rfl ?_
  refine x_iload_n (pc := 13) (i := 1) dX7_ringBody_13 rfl rfl ?_
  refine x_vs (pc := 14) (As := [_]) rfl hS lX7_264 dX7_ringBody_14 rfl rfl (Nat.le_of_ble_eq_true rfl) (c_X7_roundBody hS (by rw [fld_setF_a (by decide)]; exact tb) hnb hb) ?_
  rintro _ _ ⟨rfl, hq⟩
  obtain rfl := hq.symm
  refine x_pushI ?_
  refine x_iadd (pc := 17) dX7_ringBody_17 ?_
  refine x_ri (pc := 18) dX7_ringBody_18 rfl rfl ?_
  exact ⟨by rw [arr_setF, arr_setF], by rw [setF_setF, fld_setF hS1 rfl rfl]; rfl⟩
def tellR (ki be : Int32) : Int32 := if ki = 1 then be + 100 else if ki = 2 then be + 100 + be else be
def tellL (ki : Int32) : List Int32 := if ki = 1 then [2, 1] else if ki = 2 then [3, 2, 1, 1] else [1]


theorem c_X7_tell_no {d : Nat} {w : mW} {b : Int32} (hS : Shape w) (h : ¬ (0 ≤ b ∧ b < fld w 7 0)) : mC (d + 1) kX7_tell [.ref 0, .int b] w (fun r w' => r = some (.int (-1)) ∧ w' = w) := by
  refine mC.of (L := [_, _]) okX7_tell 0 rfl rfl ?_
  refine x_aload_n (pc := 0) (i := 0) dX7_tell_0 rfl rfl ?_
  refine x_getR (pc := 1) hS fX7_28 dX7_tell_1 rfl rfl ?_
  refine x_iload_n (pc := 4) (i := 1) dX7_tell_4 rfl rfl ?_
  refine x_vs (pc := 5) (As := [_]) rfl hS lX7_100 dX7_tell_5 rfl rfl (Nat.le_of_ble_eq_true rfl) (c_X0_hasBarrow_7 hS) ?_
  rintro _ _ ⟨rfl, hq⟩
  obtain rfl := hq.symm
  refine x_pushI ?_
  refine x_if_ne (pc := 8) (tgt := 13) dX7_tell_8 (by decide) (fun h8 => absurd h8 (by rw [b2_n0]; exact h)) (fun h8 => ?_)
  refine x_iconst (pc := 11) (v := (-1)) dX7_tell_11 (by decide) ?_
  refine x_ri (pc := 12) dX7_tell_12 rfl rfl ?_
  exact ⟨rfl, rfl⟩
theorem c_X7_tell {d : Nat} {w : mW} {b nb : Nat} (hS : Shape w) (tb : (fld w 7 0).toInt = (nb : Int)) (hnb : nb ≤ 5) (hb : b < nb) : mC (d + 4) kX7_tell [.ref 0, .int (nI b)] w (fun r w' => r = some (.int (tellR (arr w 8 b) (arr w 9 b))) ∧ w' = setF w 0 7 (trT (fld w 0 7) (tellL (arr w 8 b)))) := by
  have tk : (nI b).toInt = (b : Int) := nI_toInt (by omega)
  refine mC.of (L := [_, _]) okX7_tell 0 rfl rfl ?_
  refine x_aload_n (pc := 0) (i := 0) dX7_tell_0 rfl rfl ?_
  refine x_getR (pc := 1) hS fX7_28 dX7_tell_1 rfl rfl ?_
  refine x_iload_n (pc := 4) (i := 1) dX7_tell_4 rfl rfl ?_
  refine x_vs (pc := 5) (As := [_]) rfl hS lX7_100 dX7_tell_5 rfl rfl (Nat.le_of_ble_eq_true rfl) (c_X0_hasBarrow_7 hS) ?_
  rintro _ _ ⟨rfl, hq⟩
  obtain rfl := hq.symm
  refine x_pushI ?_
  refine x_if_ne (pc := 8) (tgt := 13) dX7_tell_8 (by decide) (fun h8 => ?_) (fun h8 => absurd h8 (by rw [b2_n0]; exact ⟨by (try simp only [b2_e0, b2_n0, Decidable.not_not] at *) <;> (try simp only [i_lt, i_le, i_eq, not_and, not_or, ne_eq, il_0, il_1, il_2, il_3, il_4, il_5, il_6, il_7, il_8, il_9, il_10, il_14, il_15, il_19, il_20, il_24, il_30, il_31, il_44, il_48, il_49, il_52, il_57, il_59, il_60, il_70, il_99, il_100, il_103, il_108, il_114, il_m1, il_m2, il_m3, il_m4, il_m9, il_m10, il_m100] at *) <;> omega, by (try simp only [b2_e0, b2_n0, Decidable.not_not] at *) <;> (try simp only [i_lt, i_le, i_eq, not_and, not_or, ne_eq, il_0, il_1, il_2, il_3, il_4, il_5, il_6, il_7, il_8, il_9, il_10, il_14, il_15, il_19, il_20, il_24, il_30, il_31, il_44, il_48, il_49, il_52, il_57, il_59, il_60, il_70, il_99, il_100, il_103, il_108, il_114, il_m1, il_m2, il_m3, il_m4, il_m9, il_m10, il_m100] at *) <;> omega⟩))
  refine x_aload_n (pc := 13) (i := 0) dX7_tell_13 rfl rfl ?_
  refine x_getR (pc := 14) hS fX7_28 dX7_tell_14 rfl rfl ?_
  refine x_getR (pc := 17) hS fX7_103 dX7_tell_17 rfl rfl ?_
  refine x_iload_n (pc := 20) (i := 1) dX7_tell_20 rfl rfl ?_
  refine x_aldN (pc := 21) hS dX7_tell_21 rfl (by omega) (by decide) ?_
  by_cases h22_1 : arr w 8 b = 1
  · rw [h22_1]
    refine x_lookup (pc := 22) (tgt := 54) dX7_tell_22 (by decide) rfl (by decide) ?_
    refine x_aload_n (pc := 54) (i := 0) dX7_tell_54 rfl rfl ?_
    refine x_iload_n (pc := 55) (i := 1) dX7_tell_55 rfl rfl ?_
    refine x_vs (pc := 56) (As := [_]) rfl hS lX7_261 dX7_tell_56 rfl rfl (Nat.le_of_ble_eq_true rfl) (c_X7_longBody hS tb hnb hb) ?_
    rintro _ _ ⟨rfl, hq⟩
    obtain rfl := hq.symm
    refine x_pushI ?_
    refine x_ri (pc := 59) dX7_tell_59 rfl rfl ?_
    exact ⟨by simp_all [tellR], by simp_all [tellL]⟩
  by_cases h22_2 : arr w 8 b = 2
  · rw [h22_2]
    refine x_lookup (pc := 22) (tgt := 48) dX7_tell_22 (by decide) rfl (by decide) ?_
    refine x_aload_n (pc := 48) (i := 0) dX7_tell_48 rfl rfl ?_
    refine x_iload_n (pc := 49) (i := 1) dX7_tell_49 rfl rfl ?_
    refine x_vs (pc := 50) (As := [_]) rfl hS lX7_258 dX7_tell_50 rfl rfl (Nat.le_of_ble_eq_true rfl) (c_X7_ringBody hS tb hnb hb) ?_
    rintro _ _ ⟨rfl, hq⟩
    obtain rfl := hq.symm
    refine x_pushI ?_
    refine x_ri (pc := 53) dX7_tell_53 rfl rfl ?_
    exact ⟨by simp_all [tellR], by simp_all [tellL]⟩
  refine x_lookup (pc := 22) (tgt := 60) (off := 38) dX7_tell_22 (by decide) (by rw [lv_osw h22_1 (by decide), lv_osw h22_2 (by decide)]; rfl) (by decide) ?_
  refine x_aload_n (pc := 60) (i := 0) dX7_tell_60 rfl rfl ?_
  refine x_iload_n (pc := 61) (i := 1) dX7_tell_61 rfl rfl ?_
  refine x_vs (pc := 62) (As := [_]) rfl hS lX7_264 dX7_tell_62 rfl rfl (Nat.le_of_ble_eq_true rfl) (c_X7_roundBody hS tb hnb hb) ?_
  rintro _ _ ⟨rfl, hq⟩
  obtain rfl := hq.symm
  refine x_pushI ?_
  refine x_ri (pc := 65) dX7_tell_65 rfl rfl ?_
  exact ⟨by simp_all [tellR], by simp_all [tellL]⟩
theorem c_X8_tell_no {d : Nat} {w : mW} {b : Int32} (hS : Shape w) (h : ¬ (0 ≤ b ∧ b < fld w 44 5)) : mC (d + 1) kX8_tell [.ref 44, .int b] w (fun r w' => r = some (.int (-1)) ∧ w' = w) := by
  refine mC.of (L := [_, _, _]) okX8_tell 1 rfl rfl ?_
  refine x_aload_n (pc := 0) (i := 0) dX8_tell_0 rfl rfl ?_
  refine x_iload_n (pc := 1) (i := 1) dX8_tell_1 rfl rfl ?_
  refine x_vs (pc := 2) (As := [_]) rfl hS lX8_152 dX8_tell_2 rfl rfl (Nat.le_of_ble_eq_true rfl) (c_X8_isBarrow hS) ?_
  rintro _ _ ⟨rfl, hq⟩
  obtain rfl := hq.symm
  refine x_pushI ?_
  refine x_if_ne (pc := 5) (tgt := 10) dX8_tell_5 (by decide) (fun h5 => absurd h5 (by rw [b2_n0]; exact h)) (fun h5 => ?_)
  refine x_iconst (pc := 8) (v := (-1)) dX8_tell_8 (by decide) ?_
  refine x_ri (pc := 9) dX8_tell_9 rfl rfl ?_
  exact ⟨rfl, rfl⟩
theorem c_X8_tell {d : Nat} {w : mW} {b nb : Nat} (hS0 : Shape w) (tb : (fld w 44 5).toInt = (nb : Int)) (hnb : nb ≤ 5) (hb : b < nb) (hbe : arr w 49 b + 100 + arr w 49 b = 2 * arr w 49 b + 100) : mC (d + 4) kX8_tell [.ref 44, .int (nI b)] w (fun r w' => r = some (.int (tellR (arr w 48 b) (arr w 49 b))) ∧ w' = setF w 44 1 (trT (fld w 44 1) (tellL (arr w 48 b)))) := by
  have tk : (nI b).toInt = (b : Int) := nI_toInt (by omega)
  have hS := hS0
  refine mC.of (L := [_, _, _]) okX8_tell 1 rfl rfl ?_
  refine x_aload_n (pc := 0) (i := 0) dX8_tell_0 rfl rfl ?_
  refine x_iload_n (pc := 1) (i := 1) dX8_tell_1 rfl rfl ?_
  refine x_vs (pc := 2) (As := [_]) rfl hS lX8_152 dX8_tell_2 rfl rfl (Nat.le_of_ble_eq_true rfl) (c_X8_isBarrow hS) ?_
  rintro _ _ ⟨rfl, hq⟩
  obtain rfl := hq.symm
  refine x_pushI ?_
  refine x_if_ne (pc := 5) (tgt := 10) dX8_tell_5 (by decide) (fun h5 => ?_) (fun h5 => absurd h5 (by rw [b2_n0]; exact ⟨by (try simp only [b2_e0, b2_n0, Decidable.not_not] at *) <;> (try simp only [i_lt, i_le, i_eq, not_and, not_or, ne_eq, il_0, il_1, il_2, il_3, il_4, il_5, il_6, il_7, il_8, il_9, il_10, il_14, il_15, il_19, il_20, il_24, il_30, il_31, il_44, il_48, il_49, il_52, il_57, il_59, il_60, il_70, il_99, il_100, il_103, il_108, il_114, il_m1, il_m2, il_m3, il_m4, il_m9, il_m10, il_m100] at *) <;> omega, by (try simp only [b2_e0, b2_n0, Decidable.not_not] at *) <;> (try simp only [i_lt, i_le, i_eq, not_and, not_or, ne_eq, il_0, il_1, il_2, il_3, il_4, il_5, il_6, il_7, il_8, il_9, il_10, il_14, il_15, il_19, il_20, il_24, il_30, il_31, il_44, il_48, il_49, il_52, il_57, il_59, il_60, il_70, il_99, il_100, il_103, il_108, il_114, il_m1, il_m2, il_m3, il_m4, il_m9, il_m10, il_m100] at *) <;> omega⟩))
  refine x_aload_n (pc := 10) (i := 0) dX8_tell_10 rfl rfl ?_
  refine x_getR (pc := 11) hS fX8_22 dX8_tell_11 rfl rfl ?_
  refine x_iload_n (pc := 14) (i := 1) dX8_tell_14 rfl rfl ?_
  refine x_aldN (pc := 15) hS dX8_tell_15 rfl (by omega) (by decide) ?_
  refine x_istore_n (pc := 16) (i := 2) (L' := [_, _, _]) dX8_tell_16 rfl (by decide) rfl ?_
  refine x_aload_n (pc := 17) (i := 0) dX8_tell_17 rfl rfl ?_
  refine x_getR (pc := 18) hS fX8_19 dX8_tell_18 rfl rfl ?_
  refine x_iload_n (pc := 21) (i := 1) dX8_tell_21 rfl rfl ?_
  refine x_aldN (pc := 22) hS dX8_tell_22 rfl (by omega) (by decide) ?_
  by_cases h23_1 : arr w 48 b = 1
  · rw [h23_1]
    refine x_lookup (pc := 23) (tgt := 48) dX8_tell_23 (by decide) rfl (by decide) ?_
    refine x_aload_n (pc := 48) (i := 0) dX8_tell_48 rfl rfl ?_
    refine x_iconst (pc := 49) (v := 2) dX8_tell_49 (by decide) ?_
    refine x_vs (pc := 50) (As := [_]) rfl hS lX8_252 dX8_tell_50 rfl rfl (Nat.le_of_ble_eq_true rfl) (c_X8_begins hS) ?_
    rintro _ w9 ⟨rfl, hq⟩
    try rw [setF_setF, fld_setF hS0 rfl rfl] at hq
    have hS : Shape w9 := by rw [hq]; exact hS0.stF rfl rfl _
    subst hq
    refine x_pushV ?_
    refine x_aload_n (pc := 53) (i := 0) dX8_tell_53 rfl rfl ?_
    refine x_iconst (pc := 54) (v := 1) dX8_tell_54 (by decide) ?_
    refine x_vs (pc := 55) (As := [_]) rfl hS lX8_252 dX8_tell_55 rfl rfl (Nat.le_of_ble_eq_true rfl) (c_X8_begins hS) ?_
    rintro _ w9 ⟨rfl, hq⟩
    try rw [setF_setF, fld_setF hS0 rfl rfl] at hq
    have hS : Shape w9 := by rw [hq]; exact hS0.stF rfl rfl _
    subst hq
    refine x_pushV ?_
    refine x_iload_n (pc := 58) (i := 2) dX8_tell_58 rfl rfl ?_
    refine x_bipush (pc := 59) (v := 100) dX8_tell_59 (by decide) ?_
    refine x_iadd (pc := 61) dX8_tell_61 ?_
    refine x_ri (pc := 62) dX8_tell_62 rfl rfl ?_
    exact ⟨by simp_all [tellR], by simp_all [tellL, trT]⟩
  by_cases h23_2 : arr w 48 b = 2
  · rw [h23_2]
    refine x_lookup (pc := 23) (tgt := 63) dX8_tell_23 (by decide) rfl (by decide) ?_
    refine x_aload_n (pc := 63) (i := 0) dX8_tell_63 rfl rfl ?_
    refine x_iconst (pc := 64) (v := 3) dX8_tell_64 (by decide) ?_
    refine x_vs (pc := 65) (As := [_]) rfl hS lX8_252 dX8_tell_65 rfl rfl (Nat.le_of_ble_eq_true rfl) (c_X8_begins hS) ?_
    rintro _ w9 ⟨rfl, hq⟩
    try rw [setF_setF, fld_setF hS0 rfl rfl] at hq
    have hS : Shape w9 := by rw [hq]; exact hS0.stF rfl rfl _
    subst hq
    refine x_pushV ?_
    refine x_aload_n (pc := 68) (i := 0) dX8_tell_68 rfl rfl ?_
    refine x_iconst (pc := 69) (v := 2) dX8_tell_69 (by decide) ?_
    refine x_vs (pc := 70) (As := [_]) rfl hS lX8_252 dX8_tell_70 rfl rfl (Nat.le_of_ble_eq_true rfl) (c_X8_begins hS) ?_
    rintro _ w9 ⟨rfl, hq⟩
    try rw [setF_setF, fld_setF hS0 rfl rfl] at hq
    have hS : Shape w9 := by rw [hq]; exact hS0.stF rfl rfl _
    subst hq
    refine x_pushV ?_
    refine x_aload_n (pc := 73) (i := 0) dX8_tell_73 rfl rfl ?_
    refine x_iconst (pc := 74) (v := 1) dX8_tell_74 (by decide) ?_
    refine x_vs (pc := 75) (As := [_]) rfl hS lX8_252 dX8_tell_75 rfl rfl (Nat.le_of_ble_eq_true rfl) (c_X8_begins hS) ?_
    rintro _ w9 ⟨rfl, hq⟩
    try rw [setF_setF, fld_setF hS0 rfl rfl] at hq
    have hS : Shape w9 := by rw [hq]; exact hS0.stF rfl rfl _
    subst hq
    refine x_pushV ?_
    refine x_aload_n (pc := 78) (i := 0) dX8_tell_78 rfl rfl ?_
    refine x_iconst (pc := 79) (v := 1) dX8_tell_79 (by decide) ?_
    refine x_vs (pc := 80) (As := [_]) rfl hS lX8_252 dX8_tell_80 rfl rfl (Nat.le_of_ble_eq_true rfl) (c_X8_begins hS) ?_
    rintro _ w9 ⟨rfl, hq⟩
    try rw [setF_setF, fld_setF hS0 rfl rfl] at hq
    have hS : Shape w9 := by rw [hq]; exact hS0.stF rfl rfl _
    subst hq
    refine x_pushV ?_
    refine x_iconst (pc := 83) (v := 2) dX8_tell_83 (by decide) ?_
    refine x_iload_n (pc := 84) (i := 2) dX8_tell_84 rfl rfl ?_
    refine x_imul (pc := 85) dX8_tell_85 ?_
    refine x_bipush (pc := 86) (v := 100) dX8_tell_86 (by decide) ?_
    refine x_iadd (pc := 88) dX8_tell_88 ?_
    refine x_ri (pc := 89) dX8_tell_89 rfl rfl ?_
    exact ⟨by simp_all [tellR], by simp_all [tellL, trT]⟩
  refine x_lookup (pc := 23) (tgt := 90) (off := 67) dX8_tell_23 (by decide) (by rw [lv_osw h23_1 (by decide), lv_osw h23_2 (by decide)]; rfl) (by decide) ?_
  refine x_aload_n (pc := 90) (i := 0) dX8_tell_90 rfl rfl ?_
  refine x_iconst (pc := 91) (v := 1) dX8_tell_91 (by decide) ?_
  refine x_vs (pc := 92) (As := [_]) rfl hS lX8_252 dX8_tell_92 rfl rfl (Nat.le_of_ble_eq_true rfl) (c_X8_begins hS) ?_
  rintro _ w9 ⟨rfl, hq⟩
  try rw [setF_setF, fld_setF hS0 rfl rfl] at hq
  have hS : Shape w9 := by rw [hq]; exact hS0.stF rfl rfl _
  subst hq
  refine x_pushV ?_
  refine x_iload_n (pc := 95) (i := 2) dX8_tell_95 rfl rfl ?_
  refine x_ri (pc := 96) dX8_tell_96 rfl rfl ?_
  exact ⟨by simp_all [tellR], by simp_all [tellL, trT]⟩
theorem beds2 : ∀ x : Int32, 1 ≤ x.toInt ∧ x.toInt ≤ 4 → x + 100 + x = 2 * x + 100 := by
  intro x hx
  obtain ⟨j, hj, rfl⟩ := nI_of2 (x := x) (M := 4) (n := 4) rfl (by rw [i_lt, il_0]; omega) (by rw [i_le, il_4]; omega)
  clear hx
  revert j
  decide +kernel
theorem both_tell {w : mW} (hI : Inv w) (b : Int32) : Both kX7_tell kX8_tell [.int b] w := by
  intro d
  obtain ⟨hS, nb, nw, nr, hD, hR, hSI, hT⟩ := id hI; obtain ⟨h1, h2, h3, tb, tw, hB, hW, ⟨e1, e2, e3⟩, f8, f9, f10, f11, f12, f13, f14, f15, f16⟩ := id hD
  by_cases hb : 0 ≤ b ∧ b < fld w 7 0
  · obtain ⟨j, hj, rfl⟩ := in_nI tb (by omega) hb
    refine mC.mono (c_X7_tell (d := d + 16) hS tb h1 hj) ?_
    rintro _ w1 ⟨rfl, hq⟩
    have hS1 : Shape w1 := by rw [hq]; exact hS.stF rfl rfl _
    have g1 : Gr [] [(0, 7)] w w1 := by rw [hq]; exact Gr.rf.stF (by decide) _
    refine mC.mono (c_X8_tell (d := d + 16) (w := w1) hS1 (by rw [g1.2 44 5 (by decide), e1]; exact tb) h1 hj (by rw [g1.1 49 (by decide), f9]; exact beds2 _ (hB j hj).2.1)) ?_
    rw [g1.1 48 (by decide), g1.1 49 (by decide), f8, f9, g1.2 44 1 (by decide), hT.2]
    rintro _ w2 ⟨rfl, hq2⟩
    have hS2 : Shape w2 := by rw [hq2]; exact hS1.stF rfl rfl _
    have g2 : Gr [] [(44, 1)] w1 w2 := by rw [hq2]; exact Gr.rf.stF (by decide) _
    have g : Gr [] [(0, 7), (44, 1)] w w2 := (g1.up (by decide) (by decide)).tr (g2.up (by decide) (by decide))
    refine ⟨rfl, hS2, nb, nw, nr, hD.gr g (by decide) (by decide), hR.gr g (by decide) (by decide), hSI.gr g (by decide), ?_, ?_⟩
    · rw [g.2 44 0 (by decide), g.2 0 8 (by decide)]; exact hT.1
    · rw [hq2, fld_setF hS1 rfl rfl, fld_setF_a (by decide), hq, fld_setF hS rfl rfl]
  · refine mC.mono (c_X7_tell_no (d := d + 19) hS hb) ?_
    rintro _ _ ⟨rfl, hq⟩; obtain rfl := hq.symm
    refine mC.mono (c_X8_tell_no (d := d + 19) hS (by rw [e1]; exact hb)) ?_
    rintro _ _ ⟨rfl, hq⟩; obtain rfl := hq.symm
    exact ⟨rfl, hI⟩
-- haunt
theorem c_X7_lentHaunt {d : Nat} {w : mW} {b : Int32} (hS : Shape w) : mC (d + 1) kX7_lentHaunt [.ref 0, .int b] w (fun r w' => r = some (.int b) ∧ w' = setF w 0 7 (31 * fld w 0 7 + 4)) := by
  refine mC.of (L := [_, _]) okX7_lentHaunt 0 rfl rfl ?_
  refine x_aload_n (pc := 0) (i := 0) dX7_lentHaunt_0 rfl rfl ?_
  refine x_iconst (pc := 1) (v := 4) dX7_lentHaunt_1 (by decide) ?_
  refine x_vs (pc := 2) (As := [_]) rfl hS lX7_279 dX7_lentHaunt_2 rfl rfl (Nat.le_of_ble_eq_true rfl) (c_X7_begin hS) ?_
  rintro _ _ ⟨rfl, hq⟩
  obtain rfl := hq.symm
  refine x_pushV ?_
  refine x_iload_n (pc := 5) (i := 1) dX7_lentHaunt_5 rfl rfl ?_
  refine x_ri (pc := 6) dX7_lentHaunt_6 rfl rfl ?_
  exact ⟨rfl, rfl⟩
theorem c_X7_ringHaunt {d : Nat} {w : mW} (hS : Shape w) : mC (d + 1) kX7_ringHaunt [.ref 0] w (fun r w' => r = some (.int 70) ∧ w' = setF w 0 7 (31 * fld w 0 7 + 5)) := by
  refine mC.of (L := [_]) okX7_ringHaunt 0 rfl rfl ?_
  refine x_aload_n (pc := 0) (i := 0) dX7_ringHaunt_0 rfl rfl ?_
  refine x_iconst (pc := 1) (v := 5) dX7_ringHaunt_1 (by decide) ?_
  refine x_vs (pc := 2) (As := [_]) rfl hS lX7_279 dX7_ringHaunt_2 rfl rfl (Nat.le_of_ble_eq_true rfl) (c_X7_begin hS) ?_
  rintro _ _ ⟨rfl, hq⟩
  obtain rfl := hq.symm
  refine x_pushV ?_
  refine x_bipush (pc := 5) (v := 70) dX7_ringHaunt_5 (by decide) ?_
  refine x_ri (pc := 7) dX7_ringHaunt_7 rfl rfl ?_
  exact ⟨rfl, rfl⟩
theorem c_X7_haunt_no {d : Nat} {w : mW} {b : Int32} (hS : Shape w) (h : ¬ (0 ≤ b ∧ b < fld w 7 0)) : mC (d + 1) kX7_haunt [.ref 0, .int b] w (fun r w' => r = some (.int (-1)) ∧ w' = w) := by
  refine mC.of (L := [_, _]) okX7_haunt 0 rfl rfl ?_
  refine x_aload_n (pc := 0) (i := 0) dX7_haunt_0 rfl rfl ?_
  refine x_getR (pc := 1) hS fX7_28 dX7_haunt_1 rfl rfl ?_
  refine x_iload_n (pc := 4) (i := 1) dX7_haunt_4 rfl rfl ?_
  refine x_vs (pc := 5) (As := [_]) rfl hS lX7_100 dX7_haunt_5 rfl rfl (Nat.le_of_ble_eq_true rfl) (c_X0_hasBarrow_7 hS) ?_
  rintro _ _ ⟨rfl, hq⟩
  obtain rfl := hq.symm
  refine x_pushI ?_
  refine x_if_ne (pc := 8) (tgt := 13) dX7_haunt_8 (by decide) (fun h8 => absurd h8 (by rw [b2_n0]; exact h)) (fun h8 => ?_)
  refine x_iconst (pc := 11) (v := (-1)) dX7_haunt_11 (by decide) ?_
  refine x_ri (pc := 12) dX7_haunt_12 rfl rfl ?_
  exact ⟨rfl, rfl⟩
theorem c_X7_haunt {d : Nat} {w : mW} {b nb : Nat} (hS : Shape w) (tb : (fld w 7 0).toInt = (nb : Int)) (hnb : nb ≤ 5) (hb : b < nb) : mC (d + 2) kX7_haunt [.ref 0, .int (nI b)] w (fun r w' => r = some (.int (if arr w 8 b = 2 then 70 else nI b)) ∧ w' = setF w 0 7 (31 * fld w 0 7 + (if arr w 8 b = 2 then 5 else 4))) := by
  have tk : (nI b).toInt = (b : Int) := nI_toInt (by omega)
  refine mC.of (L := [_, _]) okX7_haunt 0 rfl rfl ?_
  refine x_aload_n (pc := 0) (i := 0) dX7_haunt_0 rfl rfl ?_
  refine x_getR (pc := 1) hS fX7_28 dX7_haunt_1 rfl rfl ?_
  refine x_iload_n (pc := 4) (i := 1) dX7_haunt_4 rfl rfl ?_
  refine x_vs (pc := 5) (As := [_]) rfl hS lX7_100 dX7_haunt_5 rfl rfl (Nat.le_of_ble_eq_true rfl) (c_X0_hasBarrow_7 hS) ?_
  rintro _ _ ⟨rfl, hq⟩
  obtain rfl := hq.symm
  refine x_pushI ?_
  refine x_if_ne (pc := 8) (tgt := 13) dX7_haunt_8 (by decide) (fun h8 => ?_) (fun h8 => absurd h8 (by rw [b2_n0]; exact ⟨by (try simp only [b2_e0, b2_n0, Decidable.not_not] at *) <;> (try simp only [i_lt, i_le, i_eq, not_and, not_or, ne_eq, il_0, il_1, il_2, il_3, il_4, il_5, il_6, il_7, il_8, il_9, il_10, il_14, il_15, il_19, il_20, il_24, il_30, il_31, il_44, il_48, il_49, il_52, il_57, il_59, il_60, il_70, il_99, il_100, il_103, il_108, il_114, il_m1, il_m2, il_m3, il_m4, il_m9, il_m10, il_m100] at *) <;> omega, by (try simp only [b2_e0, b2_n0, Decidable.not_not] at *) <;> (try simp only [i_lt, i_le, i_eq, not_and, not_or, ne_eq, il_0, il_1, il_2, il_3, il_4, il_5, il_6, il_7, il_8, il_9, il_10, il_14, il_15, il_19, il_20, il_24, il_30, il_31, il_44, il_48, il_49, il_52, il_57, il_59, il_60, il_70, il_99, il_100, il_103, il_108, il_114, il_m1, il_m2, il_m3, il_m4, il_m9, il_m10, il_m100] at *) <;> omega⟩))
  refine x_aload_n (pc := 13) (i := 0) dX7_haunt_13 rfl rfl ?_
  refine x_getR (pc := 14) hS fX7_28 dX7_haunt_14 rfl rfl ?_
  refine x_getR (pc := 17) hS fX7_103 dX7_haunt_17 rfl rfl ?_
  refine x_iload_n (pc := 20) (i := 1) dX7_haunt_20 rfl rfl ?_
  refine x_aldN (pc := 21) hS dX7_haunt_21 rfl (by omega) (by decide) ?_
  refine x_iconst (pc := 22) (v := 2) dX7_haunt_22 (by decide) ?_
  refine x_icmp_ne (pc := 23) (tgt := 33) dX7_haunt_23 (by decide) (fun h23 => ?_) (fun h23 => ?_)
  · refine x_aload_n (pc := 33) (i := 0) dX7_haunt_33 rfl rfl ?_
    refine x_iload_n (pc := 34) (i := 1) dX7_haunt_34 rfl rfl ?_
    refine x_vs (pc := 35) (As := [_]) rfl hS lX7_270 dX7_haunt_35 rfl rfl (Nat.le_of_ble_eq_true rfl) (c_X7_lentHaunt hS) ?_
    rintro _ _ ⟨rfl, hq⟩
    obtain rfl := hq.symm
    refine x_pushI ?_
    refine x_ri (pc := 38) dX7_haunt_38 rfl rfl ?_
    exact ⟨by simp_all, by simp_all⟩
  · refine x_aload_n (pc := 26) (i := 0) dX7_haunt_26 rfl rfl ?_
    refine x_vs (pc := 27) (As := []) rfl hS lX7_267 dX7_haunt_27 rfl rfl (Nat.le_of_ble_eq_true rfl) (c_X7_ringHaunt hS) ?_
    rintro _ _ ⟨rfl, hq⟩
    obtain rfl := hq.symm
    refine x_pushI ?_
    refine x_goto (pc := 30) (tgt := 38) dX7_haunt_30 (by decide) ?_
    refine x_ri (pc := 38) dX7_haunt_38 rfl rfl ?_
    exact ⟨by simp_all, by simp_all⟩
theorem c_X8_haunt_no {d : Nat} {w : mW} {b : Int32} (hS : Shape w) (h : ¬ (0 ≤ b ∧ b < fld w 44 5)) : mC (d + 1) kX8_haunt [.ref 44, .int b] w (fun r w' => r = some (.int (-1)) ∧ w' = w) := by
  refine mC.of (L := [_, _]) okX8_haunt 0 rfl rfl ?_
  refine x_aload_n (pc := 0) (i := 0) dX8_haunt_0 rfl rfl ?_
  refine x_iload_n (pc := 1) (i := 1) dX8_haunt_1 rfl rfl ?_
  refine x_vs (pc := 2) (As := [_]) rfl hS lX8_152 dX8_haunt_2 rfl rfl (Nat.le_of_ble_eq_true rfl) (c_X8_isBarrow hS) ?_
  rintro _ _ ⟨rfl, hq⟩
  obtain rfl := hq.symm
  refine x_pushI ?_
  refine x_if_ne (pc := 5) (tgt := 10) dX8_haunt_5 (by decide) (fun h5 => absurd h5 (by rw [b2_n0]; exact h)) (fun h5 => ?_)
  refine x_iconst (pc := 8) (v := (-1)) dX8_haunt_8 (by decide) ?_
  refine x_ri (pc := 9) dX8_haunt_9 rfl rfl ?_
  exact ⟨rfl, rfl⟩
theorem c_X8_haunt {d : Nat} {w : mW} {b nb : Nat} (hS : Shape w) (tb : (fld w 44 5).toInt = (nb : Int)) (hnb : nb ≤ 5) (hb : b < nb) : mC (d + 2) kX8_haunt [.ref 44, .int (nI b)] w (fun r w' => r = some (.int (if arr w 48 b = 2 then 70 else nI b)) ∧ w' = setF w 44 1 (31 * fld w 44 1 + (if arr w 48 b = 2 then 5 else 4))) := by
  have tk : (nI b).toInt = (b : Int) := nI_toInt (by omega)
  refine mC.of (L := [_, _]) okX8_haunt 0 rfl rfl ?_
  refine x_aload_n (pc := 0) (i := 0) dX8_haunt_0 rfl rfl ?_
  refine x_iload_n (pc := 1) (i := 1) dX8_haunt_1 rfl rfl ?_
  refine x_vs (pc := 2) (As := [_]) rfl hS lX8_152 dX8_haunt_2 rfl rfl (Nat.le_of_ble_eq_true rfl) (c_X8_isBarrow hS) ?_
  rintro _ _ ⟨rfl, hq⟩
  obtain rfl := hq.symm
  refine x_pushI ?_
  refine x_if_ne (pc := 5) (tgt := 10) dX8_haunt_5 (by decide) (fun h5 => ?_) (fun h5 => absurd h5 (by rw [b2_n0]; exact ⟨by (try simp only [b2_e0, b2_n0, Decidable.not_not] at *) <;> (try simp only [i_lt, i_le, i_eq, not_and, not_or, ne_eq, il_0, il_1, il_2, il_3, il_4, il_5, il_6, il_7, il_8, il_9, il_10, il_14, il_15, il_19, il_20, il_24, il_30, il_31, il_44, il_48, il_49, il_52, il_57, il_59, il_60, il_70, il_99, il_100, il_103, il_108, il_114, il_m1, il_m2, il_m3, il_m4, il_m9, il_m10, il_m100] at *) <;> omega, by (try simp only [b2_e0, b2_n0, Decidable.not_not] at *) <;> (try simp only [i_lt, i_le, i_eq, not_and, not_or, ne_eq, il_0, il_1, il_2, il_3, il_4, il_5, il_6, il_7, il_8, il_9, il_10, il_14, il_15, il_19, il_20, il_24, il_30, il_31, il_44, il_48, il_49, il_52, il_57, il_59, il_60, il_70, il_99, il_100, il_103, il_108, il_114, il_m1, il_m2, il_m3, il_m4, il_m9, il_m10, il_m100] at *) <;> omega⟩))
  refine x_aload_n (pc := 10) (i := 0) dX8_haunt_10 rfl rfl ?_
  refine x_aload_n (pc := 11) (i := 0) dX8_haunt_11 rfl rfl ?_
  refine x_getR (pc := 12) hS fX8_19 dX8_haunt_12 rfl rfl ?_
  refine x_iload_n (pc := 15) (i := 1) dX8_haunt_15 rfl rfl ?_
  refine x_aldN (pc := 16) hS dX8_haunt_16 rfl (by omega) (by decide) ?_
  refine x_iconst (pc := 17) (v := 2) dX8_haunt_17 (by decide) ?_
  refine x_icmp_ne (pc := 18) (tgt := 25) dX8_haunt_18 (by decide) (fun h18 => ?_) (fun h18 => ?_)
  · refine x_iconst (pc := 25) (v := 4) dX8_haunt_25 (by decide) ?_
    refine x_vs (pc := 26) (As := [_]) rfl hS lX8_252 dX8_haunt_26 rfl rfl (Nat.le_of_ble_eq_true rfl) (c_X8_begins hS) ?_
    rintro _ w9 ⟨rfl, hq⟩
    have hS : Shape w9 := by rw [hq]; exact hS.stF rfl rfl _
    subst hq
    refine x_pushV ?_
    refine x_aload_n (pc := 29) (i := 0) dX8_haunt_29 rfl rfl ?_
    refine x_getR (pc := 30) hS fX8_19 dX8_haunt_30 rfl rfl ?_
    refine x_iload_n (pc := 33) (i := 1) dX8_haunt_33 rfl rfl ?_
    refine x_aldN (pc := 34) hS dX8_haunt_34 rfl (by omega) (by decide) ?_
    rw [arr_setF]
    refine x_iconst (pc := 35) (v := 2) dX8_haunt_35 (by decide) ?_
    refine x_icmp_ne (pc := 36) (tgt := 44) dX8_haunt_36 (by decide) (fun h36 => ?_) (fun h36 => ?_)
    · refine x_iload_n (pc := 44) (i := 1) dX8_haunt_44 rfl rfl ?_
      refine x_ri (pc := 45) dX8_haunt_45 rfl rfl ?_
      first | (exfalso; exact absurd h18 h36; done) | (exfalso; exact absurd h36 h18; done) | exact ⟨by simp_all, by simp_all⟩
    · refine x_bipush (pc := 39) (v := 70) dX8_haunt_39 (by decide) ?_
      refine x_goto (pc := 41) (tgt := 45) dX8_haunt_41 (by decide) ?_
      refine x_ri (pc := 45) dX8_haunt_45 rfl rfl ?_
      first | (exfalso; exact absurd h18 h36; done) | (exfalso; exact absurd h36 h18; done) | exact ⟨by simp_all, by simp_all⟩
  · refine x_iconst (pc := 21) (v := 5) dX8_haunt_21 (by decide) ?_
    refine x_goto (pc := 22) (tgt := 26) dX8_haunt_22 (by decide) ?_
    refine x_vs (pc := 26) (As := [_]) rfl hS lX8_252 dX8_haunt_26 rfl rfl (Nat.le_of_ble_eq_true rfl) (c_X8_begins hS) ?_
    rintro _ w9 ⟨rfl, hq⟩
    have hS : Shape w9 := by rw [hq]; exact hS.stF rfl rfl _
    subst hq
    refine x_pushV ?_
    refine x_aload_n (pc := 29) (i := 0) dX8_haunt_29 rfl rfl ?_
    refine x_getR (pc := 30) hS fX8_19 dX8_haunt_30 rfl rfl ?_
    refine x_iload_n (pc := 33) (i := 1) dX8_haunt_33 rfl rfl ?_
    refine x_aldN (pc := 34) hS dX8_haunt_34 rfl (by omega) (by decide) ?_
    rw [arr_setF]
    refine x_iconst (pc := 35) (v := 2) dX8_haunt_35 (by decide) ?_
    refine x_icmp_ne (pc := 36) (tgt := 44) dX8_haunt_36 (by decide) (fun h36 => ?_) (fun h36 => ?_)
    · refine x_iload_n (pc := 44) (i := 1) dX8_haunt_44 rfl rfl ?_
      refine x_ri (pc := 45) dX8_haunt_45 rfl rfl ?_
      first | (exfalso; exact absurd h18 h36; done) | (exfalso; exact absurd h36 h18; done) | exact ⟨by simp_all, by simp_all⟩
    · refine x_bipush (pc := 39) (v := 70) dX8_haunt_39 (by decide) ?_
      refine x_goto (pc := 41) (tgt := 45) dX8_haunt_41 (by decide) ?_
      refine x_ri (pc := 45) dX8_haunt_45 rfl rfl ?_
      first | (exfalso; exact absurd h18 h36; done) | (exfalso; exact absurd h36 h18; done) | exact ⟨by simp_all, by simp_all⟩
theorem both_haunt {w : mW} (hI : Inv w) (b : Int32) : Both kX7_haunt kX8_haunt [.int b] w := by
  intro d
  obtain ⟨hS, nb, nw, nr, hD, hR, hSI, hT⟩ := id hI; obtain ⟨h1, h2, h3, tb, tw, hB, hW, ⟨e1, e2, e3⟩, f8, f9, f10, f11, f12, f13, f14, f15, f16⟩ := id hD
  by_cases hb : 0 ≤ b ∧ b < fld w 7 0
  · obtain ⟨j, hj, rfl⟩ := in_nI tb (by omega) hb
    refine mC.mono (c_X7_haunt (d := d + 18) hS tb h1 hj) ?_
    rintro _ w1 ⟨rfl, hq⟩
    have hS1 : Shape w1 := by rw [hq]; exact hS.stF rfl rfl _
    have g1 : Gr [] [(0, 7)] w w1 := by rw [hq]; exact Gr.rf.stF (by decide) _
    refine mC.mono (c_X8_haunt (d := d + 18) (w := w1) hS1 (by rw [g1.2 44 5 (by decide), e1]; exact tb) h1 hj) ?_
    rw [g1.1 48 (by decide), f8, g1.2 44 1 (by decide), hT.2]
    rintro _ w2 ⟨rfl, hq2⟩
    have hS2 : Shape w2 := by rw [hq2]; exact hS1.stF rfl rfl _
    have g2 : Gr [] [(44, 1)] w1 w2 := by rw [hq2]; exact Gr.rf.stF (by decide) _
    have g : Gr [] [(0, 7), (44, 1)] w w2 := (g1.up (by decide) (by decide)).tr (g2.up (by decide) (by decide))
    refine ⟨rfl, hS2, nb, nw, nr, hD.gr g (by decide) (by decide), hR.gr g (by decide) (by decide), hSI.gr g (by decide), ?_, ?_⟩
    · rw [g.2 44 0 (by decide), g.2 0 8 (by decide)]; exact hT.1
    · rw [hq2, fld_setF hS1 rfl rfl, fld_setF_a (by decide), hq, fld_setF hS rfl rfl]
  · refine mC.mono (c_X7_haunt_no (d := d + 19) hS hb) ?_
    rintro _ _ ⟨rfl, hq⟩; obtain rfl := hq.symm
    refine mC.mono (c_X8_haunt_no (d := d + 19) hS (by rw [e1]; exact hb)) ?_
    rintro _ _ ⟨rfl, hq⟩; obtain rfl := hq.symm
    exact ⟨rfl, hI⟩

