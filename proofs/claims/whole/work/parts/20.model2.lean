-- the reference: who may lodge, nights
theorem c_X8_holdsOf {d : Nat} {w : mW} {b : Nat} (hS : Shape w) (hb : b < 5) (hki : arr w 48 b = 0 ∨ arr w 48 b = 1 ∨ arr w 48 b = 2) : mC (d + 1) kX8_holdsOf [.ref 44, .int (nI b)] w (fun r w' => r = some (.int (holdsE (arr w 48 b) (arr w 49 b))) ∧ w' = w) := by
  refine mC.of (L := [_, _]) okX8_holdsOf 0 rfl rfl ?_
  refine x_aload_n (pc := 0) (i := 0) dX8_holdsOf_0 rfl rfl ?_
  refine x_getR (pc := 1) hS fX8_19 dX8_holdsOf_1 rfl rfl ?_
  refine x_iload_n (pc := 4) (i := 1) dX8_holdsOf_4 rfl rfl ?_
  refine x_aldN (pc := 5) hS dX8_holdsOf_5 rfl hb (by decide) ?_
  refine x_aload_n (pc := 6) (i := 0) dX8_holdsOf_6 rfl rfl ?_
  refine x_getR (pc := 7) hS fX8_22 dX8_holdsOf_7 rfl rfl ?_
  refine x_iload_n (pc := 10) (i := 1) dX8_holdsOf_10 rfl rfl ?_
  refine x_aldN (pc := 11) hS dX8_holdsOf_11 rfl hb (by decide) ?_
  refine x_ss (pc := 12) (As := [_, _]) rfl lX8_148 dX8_holdsOf_12 rfl (Nat.le_of_ble_eq_true rfl) (c_X8_holdsBy hki) ?_
  rintro _ _ ⟨rfl, hq⟩
  obtain rfl := hq.symm
  refine x_pushI ?_
  refine x_ri (pc := 15) dX8_holdsOf_15 rfl rfl ?_
  exact ⟨rfl, rfl⟩
theorem c_X8_mayGo {d : Nat} {w : mW} {v b : Nat} (hS : Shape w) (hv : v < 5) (hb : b < 5) (hpl : 0 ≤ (arr w 53 v).toInt ∧ (arr w 53 v).toInt ≤ 9) (hsi : 0 ≤ (arr w 51 b).toInt ∧ (arr w 51 b).toInt ≤ 9) : mC (d + 1) kX8_mayGo [.ref 44, .int (nI v), .int (nI b)] w (fun r w' => r = some (.int (b2 (suitE (arr w 52) (arr w 53) (arr w 54) (arr w 50) (arr w 51) v b))) ∧ w' = w) := by
  refine mC.of (L := [_, _, _]) okX8_mayGo 0 rfl rfl ?_
  refine x_aload_n (pc := 0) (i := 0) dX8_mayGo_0 rfl rfl ?_
  refine x_getR (pc := 1) hS fX8_34 dX8_mayGo_1 rfl rfl ?_
  refine x_iload_n (pc := 4) (i := 1) dX8_mayGo_4 rfl rfl ?_
  refine x_aldN (pc := 5) hS dX8_mayGo_5 rfl hv (by decide) ?_
  refine x_aload_n (pc := 6) (i := 0) dX8_mayGo_6 rfl rfl ?_
  refine x_getR (pc := 7) hS fX8_28 dX8_mayGo_7 rfl rfl ?_
  refine x_iload_n (pc := 10) (i := 2) dX8_mayGo_10 rfl rfl ?_
  refine x_aldN (pc := 11) hS dX8_mayGo_11 rfl hb (by decide) ?_
  refine x_ss (pc := 12) (As := [_, _]) rfl lX8_168 dX8_mayGo_12 rfl (Nat.le_of_ble_eq_true rfl) c_X8_apart ?_
  rintro _ _ ⟨rfl, hq⟩
  obtain rfl := hq.symm
  refine x_pushI ?_
  rw [i_far hpl hsi]
  refine x_aload_n (pc := 15) (i := 0) dX8_mayGo_15 rfl rfl ?_
  refine x_getR (pc := 16) hS fX8_37 dX8_mayGo_16 rfl rfl ?_
  refine x_iload_n (pc := 19) (i := 1) dX8_mayGo_19 rfl rfl ?_
  refine x_aldN (pc := 20) hS dX8_mayGo_20 rfl hv (by decide) ?_
  refine x_icmp_gt (pc := 21) (tgt := 43) dX8_mayGo_21 (by decide) (fun h21 => ?_) (fun h21 => ?_)
  · refine x_iconst (pc := 43) (v := 0) dX8_mayGo_43 (by decide) ?_
    refine x_ri (pc := 44) dX8_mayGo_44 rfl rfl ?_
    exact ⟨by unfold b2; simp only [suitE]; split <;> first | rfl | contradiction | (exfalso; (try simp only [b2_e0, b2_n0, Decidable.not_not] at *) <;> (try simp only [i_lt, i_le, i_eq, not_and, not_or, ne_eq, il_0, il_1, il_2, il_3, il_4, il_5, il_6, il_7, il_8, il_9, il_10, il_14, il_15, il_19, il_20, il_24, il_30, il_31, il_44, il_48, il_49, il_52, il_57, il_59, il_60, il_70, il_99, il_100, il_103, il_108, il_114, il_m1, il_m2, il_m3, il_m4, il_m9, il_m10, il_m100] at *) <;> omega), rfl⟩
  · refine x_aload_n (pc := 24) (i := 0) dX8_mayGo_24 rfl rfl ?_
    refine x_getR (pc := 25) hS fX8_25 dX8_mayGo_25 rfl rfl ?_
    refine x_iload_n (pc := 28) (i := 2) dX8_mayGo_28 rfl rfl ?_
    refine x_aldN (pc := 29) hS dX8_mayGo_29 rfl hb (by decide) ?_
    refine x_aload_n (pc := 30) (i := 0) dX8_mayGo_30 rfl rfl ?_
    refine x_getR (pc := 31) hS fX8_31 dX8_mayGo_31 rfl rfl ?_
    refine x_iload_n (pc := 34) (i := 1) dX8_mayGo_34 rfl rfl ?_
    refine x_aldN (pc := 35) hS dX8_mayGo_35 rfl hv (by decide) ?_
    refine x_icmp_gt (pc := 36) (tgt := 43) dX8_mayGo_36 (by decide) (fun h36 => ?_) (fun h36 => ?_)
    · refine x_iconst (pc := 43) (v := 0) dX8_mayGo_43 (by decide) ?_
      refine x_ri (pc := 44) dX8_mayGo_44 rfl rfl ?_
      exact ⟨by unfold b2; simp only [suitE]; split <;> first | rfl | contradiction | (exfalso; (try simp only [b2_e0, b2_n0, Decidable.not_not] at *) <;> (try simp only [i_lt, i_le, i_eq, not_and, not_or, ne_eq, il_0, il_1, il_2, il_3, il_4, il_5, il_6, il_7, il_8, il_9, il_10, il_14, il_15, il_19, il_20, il_24, il_30, il_31, il_44, il_48, il_49, il_52, il_57, il_59, il_60, il_70, il_99, il_100, il_103, il_108, il_114, il_m1, il_m2, il_m3, il_m4, il_m9, il_m10, il_m100] at *) <;> omega), rfl⟩
    · refine x_iconst (pc := 39) (v := 1) dX8_mayGo_39 (by decide) ?_
      refine x_goto (pc := 40) (tgt := 44) dX8_mayGo_40 (by decide) ?_
      refine x_ri (pc := 44) dX8_mayGo_44 rfl rfl ?_
      exact ⟨by unfold b2; simp only [suitE]; split <;> first | rfl | contradiction | (exfalso; (try simp only [b2_e0, b2_n0, Decidable.not_not] at *) <;> (try simp only [i_lt, i_le, i_eq, not_and, not_or, ne_eq, il_0, il_1, il_2, il_3, il_4, il_5, il_6, il_7, il_8, il_9, il_10, il_14, il_15, il_19, il_20, il_24, il_30, il_31, il_44, il_48, il_49, il_52, il_57, il_59, il_60, il_70, il_99, il_100, il_103, il_108, il_114, il_m1, il_m2, il_m3, il_m4, il_m9, il_m10, il_m100] at *) <;> omega), rfl⟩
theorem c_X8_doLodge {d : Nat} {w : mW} {v b : Nat} {nb nw : Nat} (hS : Shape w) (tb : (fld w 44 5).toInt = (nb : Int)) (hnb : nb ≤ 5) (tw : (fld w 44 6).toInt = (nw : Int)) (hnw : nw ≤ 5) (hv : v < nw) (hb : b < nb) (hki : arr w 48 b = 0 ∨ arr w 48 b = 1 ∨ arr w 48 b = 2) (hpl : 0 ≤ (arr w 53 v).toInt ∧ (arr w 53 v).toInt ≤ 9) (hsi : 0 ≤ (arr w 51 b).toInt ∧ (arr w 51 b).toInt ≤ 9) (hlo : arr w 55 v = -9 ∨ inB (fld w 44 5) (arr w 55) v) : mC (d + 2) kX8_doLodge [.ref 44, .int (nI v), .int (nI b)] w (fun r w' => r = some (.int (b2 (canE (fld w 44 5) (fld w 44 6) nw (arr w 48) (arr w 49) (arr w 50) (arr w 51) (arr w 52) (arr w 53) (arr w 54) (arr w 55) (nI v) (nI b)))) ∧ w' = if canE (fld w 44 5) (fld w 44 6) nw (arr w 48) (arr w 49) (arr w 50) (arr w 51) (arr w 52) (arr w 53) (arr w 54) (arr w 55) (nI v) (nI b) then setA (setA w 55 (upd (arr w 55) v (nI b))) 53 (upd (arr w 53) v (arr w 51 b)) else w) := by
  have cv : (nI v).toNatClampNeg = v := nI_clamp (by omega)
  have cb : (nI b).toNatClampNeg = b := nI_clamp (by omega)
  have tv : (nI v).toInt = (v : Int) := nI_toInt (by omega)
  have tbb : (nI b).toInt = (b : Int) := nI_toInt (by omega)
  refine mC.of (L := [_, _, _]) okX8_doLodge 0 rfl rfl ?_
  refine x_aload_n (pc := 0) (i := 0) dX8_doLodge_0 rfl rfl ?_
  refine x_getR (pc := 1) hS fX8_40 dX8_doLodge_1 rfl rfl ?_
  refine x_iload_n (pc := 4) (i := 1) dX8_doLodge_4 rfl rfl ?_
  refine x_aldN (pc := 5) hS dX8_doLodge_5 rfl (by omega) (by decide) ?_
  refine x_bipush (pc := 6) (v := (-9)) dX8_doLodge_6 (by decide) ?_
  refine x_icmp_ne (pc := 8) (tgt := 36) dX8_doLodge_8 (by decide) (fun h8 => ?_) (fun h8 => ?_)
  · refine x_iconst (pc := 36) (v := 0) dX8_doLodge_36 (by decide) ?_
    refine x_ri (pc := 37) dX8_doLodge_37 rfl rfl ?_
    rw [if_neg (by simp only [canE, suitE, inB, cv, cb] at *; rcases hlo with h | h <;> (try simp only [b2_e0, b2_n0, Decidable.not_not] at *) <;> (try simp only [i_lt, i_le, i_eq, not_and, not_or, ne_eq, il_0, il_1, il_2, il_3, il_4, il_5, il_6, il_7, il_8, il_9, il_10, il_14, il_15, il_19, il_20, il_24, il_30, il_31, il_44, il_48, il_49, il_52, il_57, il_59, il_60, il_70, il_99, il_100, il_103, il_108, il_114, il_m1, il_m2, il_m3, il_m4, il_m9, il_m10, il_m100] at *) <;> omega), b2_f (by simp only [canE, suitE, inB, cv, cb] at *; rcases hlo with h | h <;> (try simp only [b2_e0, b2_n0, Decidable.not_not] at *) <;> (try simp only [i_lt, i_le, i_eq, not_and, not_or, ne_eq, il_0, il_1, il_2, il_3, il_4, il_5, il_6, il_7, il_8, il_9, il_10, il_14, il_15, il_19, il_20, il_24, il_30, il_31, il_44, il_48, il_49, il_52, il_57, il_59, il_60, il_70, il_99, il_100, il_103, il_108, il_114, il_m1, il_m2, il_m3, il_m4, il_m9, il_m10, il_m100] at *) <;> omega)]; exact ⟨rfl, rfl⟩
  · refine x_aload_n (pc := 11) (i := 0) dX8_doLodge_11 rfl rfl ?_
    refine x_iload_n (pc := 12) (i := 1) dX8_doLodge_12 rfl rfl ?_
    refine x_iload_n (pc := 13) (i := 2) dX8_doLodge_13 rfl rfl ?_
    refine x_vs (pc := 14) (As := [_, _]) rfl hS lX8_171 dX8_doLodge_14 rfl rfl (Nat.le_of_ble_eq_true rfl) (c_X8_mayGo hS (by omega) (by omega) hpl hsi) ?_
    rintro _ _ ⟨rfl, hq⟩
    obtain rfl := hq.symm
    refine x_pushI ?_
    refine x_if_eq (pc := 17) (tgt := 36) dX8_doLodge_17 (by decide) (fun h17 => ?_) (fun h17 => ?_)
    · refine x_iconst (pc := 36) (v := 0) dX8_doLodge_36 (by decide) ?_
      refine x_ri (pc := 37) dX8_doLodge_37 rfl rfl ?_
      rw [if_neg (by simp only [canE, suitE, inB, cv, cb] at *; rcases hlo with h | h <;> (try simp only [b2_e0, b2_n0, Decidable.not_not] at *) <;> (try simp only [i_lt, i_le, i_eq, not_and, not_or, ne_eq, il_0, il_1, il_2, il_3, il_4, il_5, il_6, il_7, il_8, il_9, il_10, il_14, il_15, il_19, il_20, il_24, il_30, il_31, il_44, il_48, il_49, il_52, il_57, il_59, il_60, il_70, il_99, il_100, il_103, il_108, il_114, il_m1, il_m2, il_m3, il_m4, il_m9, il_m10, il_m100] at *) <;> omega), b2_f (by simp only [canE, suitE, inB, cv, cb] at *; rcases hlo with h | h <;> (try simp only [b2_e0, b2_n0, Decidable.not_not] at *) <;> (try simp only [i_lt, i_le, i_eq, not_and, not_or, ne_eq, il_0, il_1, il_2, il_3, il_4, il_5, il_6, il_7, il_8, il_9, il_10, il_14, il_15, il_19, il_20, il_24, il_30, il_31, il_44, il_48, il_49, il_52, il_57, il_59, il_60, il_70, il_99, il_100, il_103, il_108, il_114, il_m1, il_m2, il_m3, il_m4, il_m9, il_m10, il_m100] at *) <;> omega)]; exact ⟨rfl, rfl⟩
    · refine x_aload_n (pc := 20) (i := 0) dX8_doLodge_20 rfl rfl ?_
      refine x_iload_n (pc := 21) (i := 2) dX8_doLodge_21 rfl rfl ?_
      refine x_vs (pc := 22) (As := [_]) rfl hS lX8_158 dX8_doLodge_22 rfl rfl (Nat.le_of_ble_eq_true rfl) (c_X8_lodgersOf hS tw hnw) ?_
      rintro _ _ ⟨rfl, hq⟩
      obtain rfl := hq.symm
      refine x_pushI ?_
      refine x_ss (pc := 25) (As := [_]) rfl lX8_174 dX8_doLodge_25 rfl (Nat.le_of_ble_eq_true rfl) (c_X8_size (bits32 hnw)) ?_
      rintro _ _ ⟨rfl, hq⟩
      obtain rfl := hq.symm
      refine x_pushI ?_
      rw [popc_bits _ hnw]
      refine x_aload_n (pc := 28) (i := 0) dX8_doLodge_28 rfl rfl ?_
      refine x_iload_n (pc := 29) (i := 2) dX8_doLodge_29 rfl rfl ?_
      refine x_vs (pc := 30) (As := [_]) rfl hS lX8_155 dX8_doLodge_30 rfl rfl (Nat.le_of_ble_eq_true rfl) (c_X8_holdsOf hS (by omega) hki) ?_
      rintro _ _ ⟨rfl, hq⟩
      obtain rfl := hq.symm
      refine x_pushI ?_
      refine x_icmp_lt (pc := 33) (tgt := 38) dX8_doLodge_33 (by decide) (fun h33 => ?_) (fun h33 => ?_)
      · refine x_aload_n (pc := 38) (i := 0) dX8_doLodge_38 rfl rfl ?_
        refine x_getR (pc := 39) hS fX8_40 dX8_doLodge_39 rfl rfl ?_
        refine x_iload_n (pc := 42) (i := 1) dX8_doLodge_42 rfl rfl ?_
        refine x_iload_n (pc := 43) (i := 2) dX8_doLodge_43 rfl rfl ?_
        refine x_astN (pc := 44) hS dX8_doLodge_44 rfl (by omega) (by decide) (fun hS => ?_)
        refine x_aload_n (pc := 45) (i := 0) dX8_doLodge_45 rfl rfl ?_
        refine x_getR (pc := 46) hS fX8_34 dX8_doLodge_46 rfl rfl ?_
        refine x_iload_n (pc := 49) (i := 1) dX8_doLodge_49 rfl rfl ?_
        refine x_aload_n (pc := 50) (i := 0) dX8_doLodge_50 rfl rfl ?_
        refine x_getR (pc := 51) hS fX8_28 dX8_doLodge_51 rfl rfl ?_
        refine x_iload_n (pc := 54) (i := 2) dX8_doLodge_54 rfl rfl ?_
        refine x_aldN (pc := 55) hS dX8_doLodge_55 rfl (by omega) (by decide) ?_
        refine x_astN (pc := 56) hS dX8_doLodge_56 rfl (by omega) (by decide) (fun hS => ?_)
        refine x_iconst (pc := 57) (v := 1) dX8_doLodge_57 (by decide) ?_
        refine x_ri (pc := 58) dX8_doLodge_58 rfl rfl ?_
        rw [if_pos (by simp only [canE, suitE, inB, cv, cb] at *; (try simp only [b2_e0, b2_n0, Decidable.not_not] at *) <;> (try simp only [i_lt, i_le, i_eq, not_and, not_or, ne_eq, il_0, il_1, il_2, il_3, il_4, il_5, il_6, il_7, il_8, il_9, il_10, il_14, il_15, il_19, il_20, il_24, il_30, il_31, il_44, il_48, il_49, il_52, il_57, il_59, il_60, il_70, il_99, il_100, il_103, il_108, il_114, il_m1, il_m2, il_m3, il_m4, il_m9, il_m10, il_m100] at *) <;> omega), b2_t (by simp only [canE, suitE, inB, cv, cb] at *; (try simp only [b2_e0, b2_n0, Decidable.not_not] at *) <;> (try simp only [i_lt, i_le, i_eq, not_and, not_or, ne_eq, il_0, il_1, il_2, il_3, il_4, il_5, il_6, il_7, il_8, il_9, il_10, il_14, il_15, il_19, il_20, il_24, il_30, il_31, il_44, il_48, il_49, il_52, il_57, il_59, il_60, il_70, il_99, il_100, il_103, il_108, il_114, il_m1, il_m2, il_m3, il_m4, il_m9, il_m10, il_m100] at *) <;> omega)]; exact ⟨rfl, by rw [arr_setA_a (by decide), arr_setA_a (by decide)]⟩
      · refine x_iconst (pc := 36) (v := 0) dX8_doLodge_36 (by decide) ?_
        refine x_ri (pc := 37) dX8_doLodge_37 rfl rfl ?_
        rw [if_neg (by simp only [canE, suitE, inB, cv, cb] at *; rcases hlo with h | h <;> (try simp only [b2_e0, b2_n0, Decidable.not_not] at *) <;> (try simp only [i_lt, i_le, i_eq, not_and, not_or, ne_eq, il_0, il_1, il_2, il_3, il_4, il_5, il_6, il_7, il_8, il_9, il_10, il_14, il_15, il_19, il_20, il_24, il_30, il_31, il_44, il_48, il_49, il_52, il_57, il_59, il_60, il_70, il_99, il_100, il_103, il_108, il_114, il_m1, il_m2, il_m3, il_m4, il_m9, il_m10, il_m100] at *) <;> omega), b2_f (by simp only [canE, suitE, inB, cv, cb] at *; rcases hlo with h | h <;> (try simp only [b2_e0, b2_n0, Decidable.not_not] at *) <;> (try simp only [i_lt, i_le, i_eq, not_and, not_or, ne_eq, il_0, il_1, il_2, il_3, il_4, il_5, il_6, il_7, il_8, il_9, il_10, il_14, il_15, il_19, il_20, il_24, il_30, il_31, il_44, il_48, il_49, il_52, il_57, il_59, il_60, il_70, il_99, il_100, il_103, il_108, il_114, il_m1, il_m2, il_m3, il_m4, il_m9, il_m10, il_m100] at *) <;> omega)]; exact ⟨rfl, rfl⟩
theorem c_X8_goNight {d : Nat} {w0 : mW} {nb nw : Nat} (hS0 : Shape w0) (tb : (fld w0 44 5).toInt = (nb : Int)) (hnb : nb ≤ 5) (tw : (fld w0 44 6).toInt = (nw : Int)) (hnw : nw ≤ 5) (hlo : ∀ j, j < nw → arr w0 55 j = -9 ∨ inB (fld w0 44 5) (arr w0 55) j) : mC d kX8_goNight [.ref 44] w0 (fun r w' => r = some (.int (nI (cntN (outP (fld w0 44 5) (arr w0 50) (arr w0 52) (arr w0 55)) nw))) ∧ nAt (fld w0 44 5) 50 52 55 56 w0 nw w') := by
  have lp : ∀ (m k : Nat) (v3 : Value) (w : mW), v3 = .null ∨ (∃ x, v3 = .int x) → nAt (fld w0 44 5) 50 52 55 56 w0 k w → k ≤ nw → nw < k + m → mJ mX0 d kX8_goNight (fun r w' => r = some (.int (nI (cntN (outP (fld w0 44 5) (arr w0 50) (arr w0 52) (arr w0 55)) nw))) ∧ nAt (fld w0 44 5) 50 52 55 56 w0 nw w') 4 [.ref 44, .int (nI (cntN (outP (fld w0 44 5) (arr w0 50) (arr w0 52) (arr w0 55)) k)), .int (nI k), v3] [] w := by
    intro m
    induction m with
    | zero => intro k v3 w _ _ h1 h2; omega
    | succ m ih =>
      intro k v3 w hv hN hk1 hk2
      have hS := hN.1
      have tk : (nI k).toInt = (k : Int) := nI_toInt (by omega)
      have eb : fld w 44 5 = fld w0 44 5 := hN.2.1.fl (by decide) 5
      have ew : fld w 44 6 = fld w0 44 6 := hN.2.1.fl (by decide) 6
      have tw1 : (fld w 44 6).toInt = (nw : Int) := by rw [ew]; exact tw
      have K : ∀ (w1 : mW) (n1 : Int32) (v3 : Value), k < nw → nAt (fld w0 44 5) 50 52 55 56 w0 (k + 1) w1 → n1 = nI (cntN (outP (fld w0 44 5) (arr w0 50) (arr w0 52) (arr w0 55)) (k + 1)) → (v3 = .null ∨ (∃ x, v3 = .int x)) → mJ mX0 d kX8_goNight (fun r w' => r = some (.int (nI (cntN (outP (fld w0 44 5) (arr w0 50) (arr w0 52) (arr w0 55)) nw))) ∧ nAt (fld w0 44 5) 50 52 55 56 w0 nw w') 4 [.ref 44, .int n1, .int (nI (k + 1)), v3] [] w1 := by
        intro w1 n1 v3 h0 h1 h2 h3
        rw [h2]
        exact ih (k + 1) v3 w1 h3 h1 (by omega) (by omega)
      rcases hv with rfl | ⟨x3, rfl⟩
      · skip
        refine x_iload_n (pc := 4) (i := 2) dX8_goNight_4 rfl rfl ?_
        refine x_aload_n (pc := 5) (i := 0) dX8_goNight_5 rfl rfl ?_
        refine x_getI (pc := 6) hS fX8_95 dX8_goNight_6 rfl rfl ?_
        refine x_icmp_ge (pc := 9) (tgt := 96) dX8_goNight_9 (by decide) (fun h9 => ?_) (fun h9 => ?_)
        · refine x_iload_n (pc := 96) (i := 1) dX8_goNight_96 rfl rfl ?_
          refine x_ri (pc := 97) dX8_goNight_97 rfl rfl ?_
          have e := show k = nw by (try simp only [b2_e0, b2_n0, Decidable.not_not] at *) <;> (try simp only [i_lt, i_le, i_eq, not_and, not_or, ne_eq, il_0, il_1, il_2, il_3, il_4, il_5, il_6, il_7, il_8, il_9, il_10, il_14, il_15, il_19, il_20, il_24, il_30, il_31, il_44, il_48, il_49, il_52, il_57, il_59, il_60, il_70, il_99, il_100, il_103, il_108, il_114, il_m1, il_m2, il_m3, il_m4, il_m9, il_m10, il_m100] at *) <;> omega
          subst e
          exact ⟨rfl, hN⟩
        · have hkn : k < nw := by (try simp only [b2_e0, b2_n0, Decidable.not_not] at *) <;> (try simp only [i_lt, i_le, i_eq, not_and, not_or, ne_eq, il_0, il_1, il_2, il_3, il_4, il_5, il_6, il_7, il_8, il_9, il_10, il_14, il_15, il_19, il_20, il_24, il_30, il_31, il_44, il_48, il_49, il_52, il_57, il_59, il_60, il_70, il_99, il_100, il_103, il_108, il_114, il_m1, il_m2, il_m3, il_m4, il_m9, il_m10, il_m100] at *) <;> omega
          have hlk : arr w 55 k = -9 ∨ inB (fld w0 44 5) (arr w 55) k := by rw [hN.2.2.2.1]; simp only [inB, nLo_k]; exact hlo k hkn
          refine x_aload_n (pc := 12) (i := 0) dX8_goNight_12 rfl rfl ?_
          refine x_getR (pc := 13) hS fX8_40 dX8_goNight_13 rfl rfl ?_
          refine x_iload_n (pc := 16) (i := 2) dX8_goNight_16 rfl rfl ?_
          refine x_aldN (pc := 17) hS dX8_goNight_17 rfl (by omega) (by decide) ?_
          refine x_istore_n (pc := 18) (i := 3) (L' := [_, _, _, _]) dX8_goNight_18 rfl (by decide) rfl ?_
          refine x_iload_n (pc := 19) (i := 3) dX8_goNight_19 rfl rfl ?_
          refine x_bipush (pc := 20) (v := (-9)) dX8_goNight_20 (by decide) ?_
          refine x_icmp_eq (pc := 22) (tgt := 58) dX8_goNight_22 (by decide) (fun h22 => ?_) (fun h22 => ?_)
          · have hp : ¬ paysP (fld w0 44 5) (arr w 50) (arr w 52) (arr w 55) k := by rcases hlk with h | h <;> (try simp only [paysP, inB] at *) <;> (try simp only [b2_e0, b2_n0, Decidable.not_not] at *) <;> (try simp only [i_lt, i_le, i_eq, not_and, not_or, ne_eq, il_0, il_1, il_2, il_3, il_4, il_5, il_6, il_7, il_8, il_9, il_10, il_14, il_15, il_19, il_20, il_24, il_30, il_31, il_44, il_48, il_49, il_52, il_57, il_59, il_60, il_70, il_99, il_100, il_103, il_108, il_114, il_m1, il_m2, il_m3, il_m4, il_m9, il_m10, il_m100] at *) <;> omega
            refine x_iload_n (pc := 58) (i := 1) dX8_goNight_58 rfl rfl ?_
            refine x_iload_n (pc := 59) (i := 3) dX8_goNight_59 rfl rfl ?_
            refine x_bipush (pc := 60) (v := (-9)) dX8_goNight_60 (by decide) ?_
            refine x_icmp_ne (pc := 62) (tgt := 69) dX8_goNight_62 (by decide) (fun h62 => ?_) (fun h62 => ?_)
            · refine x_iconst (pc := 69) (v := 1) dX8_goNight_69 (by decide) ?_
              refine x_iadd (pc := 70) dX8_goNight_70 ?_
              refine x_istore_n (pc := 71) (i := 1) (L' := [_, _, _, _]) dX8_goNight_71 rfl (by decide) rfl ?_
              refine x_aload_n (pc := 72) (i := 0) dX8_goNight_72 rfl rfl ?_
              refine x_getR (pc := 73) hS fX8_40 dX8_goNight_73 rfl rfl ?_
              refine x_iload_n (pc := 76) (i := 2) dX8_goNight_76 rfl rfl ?_
              refine x_bipush (pc := 77) (v := (-9)) dX8_goNight_77 (by decide) ?_
              refine x_astN (pc := 79) hS dX8_goNight_79 rfl (by omega) (by decide) (fun hS => ?_)
              refine x_aload_n (pc := 80) (i := 0) dX8_goNight_80 rfl rfl ?_
              refine x_getR (pc := 81) hS fX8_43 dX8_goNight_81 rfl rfl ?_
              refine x_iload_n (pc := 84) (i := 2) dX8_goNight_84 rfl rfl ?_
              refine x_dup2 (pc := 85) dX8_goNight_85 rfl rfl ?_
              refine x_aldN (pc := 86) hS dX8_goNight_86 rfl (by omega) (by decide) ?_
              refine x_iconst (pc := 87) (v := 1) dX8_goNight_87 (by decide) ?_
              refine x_iadd (pc := 88) dX8_goNight_88 ?_
              refine x_astN (pc := 89) hS dX8_goNight_89 rfl (by omega) (by decide) (fun hS => ?_)
              refine x_iinc (pc := 90) (L' := [_, _, _, _]) dX8_goNight_90 (by decide) rfl (by first | exact nI_inc _ | rfl) rfl ?_
              refine x_goto (pc := 93) (tgt := 4) dX8_goNight_93 (by decide) ?_
              refine K _ _ _ hkn ?_ ?_ (Or.inr ⟨_, rfl⟩)
              · first | exact hN.step (by decide) (by decide) rfl rfl rfl (if_pos hp).symm | (rw [arr_setA_a (by decide)]; exact hN.step (by decide) (by decide) rfl rfl rfl (if_neg hp).symm)
              · have ho := hN.out (aP := 50) (by decide)
                by_cases hoP : outP (fld w0 44 5) (arr w0 50) (arr w0 52) (arr w0 55) k = true
                · rw [cnt_t hoP]; first | exact nI_1 _ | (exfalso; have hz := mt ho.mp (not_not_intro hoP); clear ho; rcases hlk with h | h <;> (try simp only [paysP, inB] at *) <;> (try simp only [b2_e0, b2_n0, Decidable.not_not] at *) <;> (try simp only [i_lt, i_le, i_eq, not_and, not_or, ne_eq, il_0, il_1, il_2, il_3, il_4, il_5, il_6, il_7, il_8, il_9, il_10, il_14, il_15, il_19, il_20, il_24, il_30, il_31, il_44, il_48, il_49, il_52, il_57, il_59, il_60, il_70, il_99, il_100, il_103, il_108, il_114, il_m1, il_m2, il_m3, il_m4, il_m9, il_m10, il_m100] at *) <;> omega)
                · have e7 := cnt_f (p := outP (fld w0 44 5) (arr w0 50) (arr w0 52) (arr w0 55)) (k := k) (by simpa using hoP)
                  first | (rw [e7]; done) | (rw [e7]; exact Int32.add_zero _) | (exfalso; have hz := ho.mpr hoP; clear ho; rcases hlk with h | h <;> (try simp only [paysP, inB] at *) <;> (try simp only [b2_e0, b2_n0, Decidable.not_not] at *) <;> (try simp only [i_lt, i_le, i_eq, not_and, not_or, ne_eq, il_0, il_1, il_2, il_3, il_4, il_5, il_6, il_7, il_8, il_9, il_10, il_14, il_15, il_19, il_20, il_24, il_30, il_31, il_44, il_48, il_49, il_52, il_57, il_59, il_60, il_70, il_99, il_100, il_103, il_108, il_114, il_m1, il_m2, il_m3, il_m4, il_m9, il_m10, il_m100] at *) <;> omega)
            · refine x_iconst (pc := 65) (v := 0) dX8_goNight_65 (by decide) ?_
              refine x_goto (pc := 66) (tgt := 70) dX8_goNight_66 (by decide) ?_
              refine x_iadd (pc := 70) dX8_goNight_70 ?_
              refine x_istore_n (pc := 71) (i := 1) (L' := [_, _, _, _]) dX8_goNight_71 rfl (by decide) rfl ?_
              refine x_aload_n (pc := 72) (i := 0) dX8_goNight_72 rfl rfl ?_
              refine x_getR (pc := 73) hS fX8_40 dX8_goNight_73 rfl rfl ?_
              refine x_iload_n (pc := 76) (i := 2) dX8_goNight_76 rfl rfl ?_
              refine x_bipush (pc := 77) (v := (-9)) dX8_goNight_77 (by decide) ?_
              refine x_astN (pc := 79) hS dX8_goNight_79 rfl (by omega) (by decide) (fun hS => ?_)
              refine x_aload_n (pc := 80) (i := 0) dX8_goNight_80 rfl rfl ?_
              refine x_getR (pc := 81) hS fX8_43 dX8_goNight_81 rfl rfl ?_
              refine x_iload_n (pc := 84) (i := 2) dX8_goNight_84 rfl rfl ?_
              refine x_dup2 (pc := 85) dX8_goNight_85 rfl rfl ?_
              refine x_aldN (pc := 86) hS dX8_goNight_86 rfl (by omega) (by decide) ?_
              refine x_iconst (pc := 87) (v := 1) dX8_goNight_87 (by decide) ?_
              refine x_iadd (pc := 88) dX8_goNight_88 ?_
              refine x_astN (pc := 89) hS dX8_goNight_89 rfl (by omega) (by decide) (fun hS => ?_)
              refine x_iinc (pc := 90) (L' := [_, _, _, _]) dX8_goNight_90 (by decide) rfl (by first | exact nI_inc _ | rfl) rfl ?_
              refine x_goto (pc := 93) (tgt := 4) dX8_goNight_93 (by decide) ?_
              refine K _ _ _ hkn ?_ ?_ (Or.inr ⟨_, rfl⟩)
              · first | exact hN.step (by decide) (by decide) rfl rfl rfl (if_pos hp).symm | (rw [arr_setA_a (by decide)]; exact hN.step (by decide) (by decide) rfl rfl rfl (if_neg hp).symm)
              · have ho := hN.out (aP := 50) (by decide)
                by_cases hoP : outP (fld w0 44 5) (arr w0 50) (arr w0 52) (arr w0 55) k = true
                · rw [cnt_t hoP]; first | exact nI_1 _ | (exfalso; have hz := mt ho.mp (not_not_intro hoP); clear ho; rcases hlk with h | h <;> (try simp only [paysP, inB] at *) <;> (try simp only [b2_e0, b2_n0, Decidable.not_not] at *) <;> (try simp only [i_lt, i_le, i_eq, not_and, not_or, ne_eq, il_0, il_1, il_2, il_3, il_4, il_5, il_6, il_7, il_8, il_9, il_10, il_14, il_15, il_19, il_20, il_24, il_30, il_31, il_44, il_48, il_49, il_52, il_57, il_59, il_60, il_70, il_99, il_100, il_103, il_108, il_114, il_m1, il_m2, il_m3, il_m4, il_m9, il_m10, il_m100] at *) <;> omega)
                · have e7 := cnt_f (p := outP (fld w0 44 5) (arr w0 50) (arr w0 52) (arr w0 55)) (k := k) (by simpa using hoP)
                  first | (rw [e7]; done) | (rw [e7]; exact Int32.add_zero _) | (exfalso; have hz := ho.mpr hoP; clear ho; rcases hlk with h | h <;> (try simp only [paysP, inB] at *) <;> (try simp only [b2_e0, b2_n0, Decidable.not_not] at *) <;> (try simp only [i_lt, i_le, i_eq, not_and, not_or, ne_eq, il_0, il_1, il_2, il_3, il_4, il_5, il_6, il_7, il_8, il_9, il_10, il_14, il_15, il_19, il_20, il_24, il_30, il_31, il_44, il_48, il_49, il_52, il_57, il_59, il_60, il_70, il_99, il_100, il_103, il_108, il_114, il_m1, il_m2, il_m3, il_m4, il_m9, il_m10, il_m100] at *) <;> omega)
          · refine x_aload_n (pc := 25) (i := 0) dX8_goNight_25 rfl rfl ?_
            refine x_getR (pc := 26) hS fX8_25 dX8_goNight_26 rfl rfl ?_
            refine x_iload_n (pc := 29) (i := 3) dX8_goNight_29 rfl rfl ?_
            refine x_ald (pc := 30) hS dX8_goNight_30 rfl (by rw [vp_in_iff]; rcases hlk with h | h <;> (try simp only [paysP, inB] at *) <;> (try simp only [b2_e0, b2_n0, Decidable.not_not] at *) <;> (try simp only [i_lt, i_le, i_eq, not_and, not_or, ne_eq, il_0, il_1, il_2, il_3, il_4, il_5, il_6, il_7, il_8, il_9, il_10, il_14, il_15, il_19, il_20, il_24, il_30, il_31, il_44, il_48, il_49, il_52, il_57, il_59, il_60, il_70, il_99, il_100, il_103, il_108, il_114, il_m1, il_m2, il_m3, il_m4, il_m9, il_m10, il_m100] at *) <;> omega) ?_
            refine x_aload_n (pc := 31) (i := 0) dX8_goNight_31 rfl rfl ?_
            refine x_getR (pc := 32) hS fX8_31 dX8_goNight_32 rfl rfl ?_
            refine x_iload_n (pc := 35) (i := 2) dX8_goNight_35 rfl rfl ?_
            refine x_aldN (pc := 36) hS dX8_goNight_36 rfl (by omega) (by decide) ?_
            refine x_icmp_gt (pc := 37) (tgt := 58) dX8_goNight_37 (by decide) (fun h37 => ?_) (fun h37 => ?_)
            · have hp : ¬ paysP (fld w0 44 5) (arr w 50) (arr w 52) (arr w 55) k := by rcases hlk with h | h <;> (try simp only [paysP, inB] at *) <;> (try simp only [b2_e0, b2_n0, Decidable.not_not] at *) <;> (try simp only [i_lt, i_le, i_eq, not_and, not_or, ne_eq, il_0, il_1, il_2, il_3, il_4, il_5, il_6, il_7, il_8, il_9, il_10, il_14, il_15, il_19, il_20, il_24, il_30, il_31, il_44, il_48, il_49, il_52, il_57, il_59, il_60, il_70, il_99, il_100, il_103, il_108, il_114, il_m1, il_m2, il_m3, il_m4, il_m9, il_m10, il_m100] at *) <;> omega
              refine x_iload_n (pc := 58) (i := 1) dX8_goNight_58 rfl rfl ?_
              refine x_iload_n (pc := 59) (i := 3) dX8_goNight_59 rfl rfl ?_
              refine x_bipush (pc := 60) (v := (-9)) dX8_goNight_60 (by decide) ?_
              refine x_icmp_ne (pc := 62) (tgt := 69) dX8_goNight_62 (by decide) (fun h62 => ?_) (fun h62 => ?_)
              · refine x_iconst (pc := 69) (v := 1) dX8_goNight_69 (by decide) ?_
                refine x_iadd (pc := 70) dX8_goNight_70 ?_
                refine x_istore_n (pc := 71) (i := 1) (L' := [_, _, _, _]) dX8_goNight_71 rfl (by decide) rfl ?_
                refine x_aload_n (pc := 72) (i := 0) dX8_goNight_72 rfl rfl ?_
                refine x_getR (pc := 73) hS fX8_40 dX8_goNight_73 rfl rfl ?_
                refine x_iload_n (pc := 76) (i := 2) dX8_goNight_76 rfl rfl ?_
                refine x_bipush (pc := 77) (v := (-9)) dX8_goNight_77 (by decide) ?_
                refine x_astN (pc := 79) hS dX8_goNight_79 rfl (by omega) (by decide) (fun hS => ?_)
                refine x_aload_n (pc := 80) (i := 0) dX8_goNight_80 rfl rfl ?_
                refine x_getR (pc := 81) hS fX8_43 dX8_goNight_81 rfl rfl ?_
                refine x_iload_n (pc := 84) (i := 2) dX8_goNight_84 rfl rfl ?_
                refine x_dup2 (pc := 85) dX8_goNight_85 rfl rfl ?_
                refine x_aldN (pc := 86) hS dX8_goNight_86 rfl (by omega) (by decide) ?_
                refine x_iconst (pc := 87) (v := 1) dX8_goNight_87 (by decide) ?_
                refine x_iadd (pc := 88) dX8_goNight_88 ?_
                refine x_astN (pc := 89) hS dX8_goNight_89 rfl (by omega) (by decide) (fun hS => ?_)
                refine x_iinc (pc := 90) (L' := [_, _, _, _]) dX8_goNight_90 (by decide) rfl (by first | exact nI_inc _ | rfl) rfl ?_
                refine x_goto (pc := 93) (tgt := 4) dX8_goNight_93 (by decide) ?_
                refine K _ _ _ hkn ?_ ?_ (Or.inr ⟨_, rfl⟩)
                · first | exact hN.step (by decide) (by decide) rfl rfl rfl (if_pos hp).symm | (rw [arr_setA_a (by decide)]; exact hN.step (by decide) (by decide) rfl rfl rfl (if_neg hp).symm)
                · have ho := hN.out (aP := 50) (by decide)
                  by_cases hoP : outP (fld w0 44 5) (arr w0 50) (arr w0 52) (arr w0 55) k = true
                  · rw [cnt_t hoP]; first | exact nI_1 _ | (exfalso; have hz := mt ho.mp (not_not_intro hoP); clear ho; rcases hlk with h | h <;> (try simp only [paysP, inB] at *) <;> (try simp only [b2_e0, b2_n0, Decidable.not_not] at *) <;> (try simp only [i_lt, i_le, i_eq, not_and, not_or, ne_eq, il_0, il_1, il_2, il_3, il_4, il_5, il_6, il_7, il_8, il_9, il_10, il_14, il_15, il_19, il_20, il_24, il_30, il_31, il_44, il_48, il_49, il_52, il_57, il_59, il_60, il_70, il_99, il_100, il_103, il_108, il_114, il_m1, il_m2, il_m3, il_m4, il_m9, il_m10, il_m100] at *) <;> omega)
                  · have e7 := cnt_f (p := outP (fld w0 44 5) (arr w0 50) (arr w0 52) (arr w0 55)) (k := k) (by simpa using hoP)
                    first | (rw [e7]; done) | (rw [e7]; exact Int32.add_zero _) | (exfalso; have hz := ho.mpr hoP; clear ho; rcases hlk with h | h <;> (try simp only [paysP, inB] at *) <;> (try simp only [b2_e0, b2_n0, Decidable.not_not] at *) <;> (try simp only [i_lt, i_le, i_eq, not_and, not_or, ne_eq, il_0, il_1, il_2, il_3, il_4, il_5, il_6, il_7, il_8, il_9, il_10, il_14, il_15, il_19, il_20, il_24, il_30, il_31, il_44, il_48, il_49, il_52, il_57, il_59, il_60, il_70, il_99, il_100, il_103, il_108, il_114, il_m1, il_m2, il_m3, il_m4, il_m9, il_m10, il_m100] at *) <;> omega)
              · refine x_iconst (pc := 65) (v := 0) dX8_goNight_65 (by decide) ?_
                refine x_goto (pc := 66) (tgt := 70) dX8_goNight_66 (by decide) ?_
                refine x_iadd (pc := 70) dX8_goNight_70 ?_
                refine x_istore_n (pc := 71) (i := 1) (L' := [_, _, _, _]) dX8_goNight_71 rfl (by decide) rfl ?_
                refine x_aload_n (pc := 72) (i := 0) dX8_goNight_72 rfl rfl ?_
                refine x_getR (pc := 73) hS fX8_40 dX8_goNight_73 rfl rfl ?_
                refine x_iload_n (pc := 76) (i := 2) dX8_goNight_76 rfl rfl ?_
                refine x_bipush (pc := 77) (v := (-9)) dX8_goNight_77 (by decide) ?_
                refine x_astN (pc := 79) hS dX8_goNight_79 rfl (by omega) (by decide) (fun hS => ?_)
                refine x_aload_n (pc := 80) (i := 0) dX8_goNight_80 rfl rfl ?_
                refine x_getR (pc := 81) hS fX8_43 dX8_goNight_81 rfl rfl ?_
                refine x_iload_n (pc := 84) (i := 2) dX8_goNight_84 rfl rfl ?_
                refine x_dup2 (pc := 85) dX8_goNight_85 rfl rfl ?_
                refine x_aldN (pc := 86) hS dX8_goNight_86 rfl (by omega) (by decide) ?_
                refine x_iconst (pc := 87) (v := 1) dX8_goNight_87 (by decide) ?_
                refine x_iadd (pc := 88) dX8_goNight_88 ?_
                refine x_astN (pc := 89) hS dX8_goNight_89 rfl (by omega) (by decide) (fun hS => ?_)
                refine x_iinc (pc := 90) (L' := [_, _, _, _]) dX8_goNight_90 (by decide) rfl (by first | exact nI_inc _ | rfl) rfl ?_
                refine x_goto (pc := 93) (tgt := 4) dX8_goNight_93 (by decide) ?_
                refine K _ _ _ hkn ?_ ?_ (Or.inr ⟨_, rfl⟩)
                · first | exact hN.step (by decide) (by decide) rfl rfl rfl (if_pos hp).symm | (rw [arr_setA_a (by decide)]; exact hN.step (by decide) (by decide) rfl rfl rfl (if_neg hp).symm)
                · have ho := hN.out (aP := 50) (by decide)
                  by_cases hoP : outP (fld w0 44 5) (arr w0 50) (arr w0 52) (arr w0 55) k = true
                  · rw [cnt_t hoP]; first | exact nI_1 _ | (exfalso; have hz := mt ho.mp (not_not_intro hoP); clear ho; rcases hlk with h | h <;> (try simp only [paysP, inB] at *) <;> (try simp only [b2_e0, b2_n0, Decidable.not_not] at *) <;> (try simp only [i_lt, i_le, i_eq, not_and, not_or, ne_eq, il_0, il_1, il_2, il_3, il_4, il_5, il_6, il_7, il_8, il_9, il_10, il_14, il_15, il_19, il_20, il_24, il_30, il_31, il_44, il_48, il_49, il_52, il_57, il_59, il_60, il_70, il_99, il_100, il_103, il_108, il_114, il_m1, il_m2, il_m3, il_m4, il_m9, il_m10, il_m100] at *) <;> omega)
                  · have e7 := cnt_f (p := outP (fld w0 44 5) (arr w0 50) (arr w0 52) (arr w0 55)) (k := k) (by simpa using hoP)
                    first | (rw [e7]; done) | (rw [e7]; exact Int32.add_zero _) | (exfalso; have hz := ho.mpr hoP; clear ho; rcases hlk with h | h <;> (try simp only [paysP, inB] at *) <;> (try simp only [b2_e0, b2_n0, Decidable.not_not] at *) <;> (try simp only [i_lt, i_le, i_eq, not_and, not_or, ne_eq, il_0, il_1, il_2, il_3, il_4, il_5, il_6, il_7, il_8, il_9, il_10, il_14, il_15, il_19, il_20, il_24, il_30, il_31, il_44, il_48, il_49, il_52, il_57, il_59, il_60, il_70, il_99, il_100, il_103, il_108, il_114, il_m1, il_m2, il_m3, il_m4, il_m9, il_m10, il_m100] at *) <;> omega)
            · have hp : paysP (fld w0 44 5) (arr w 50) (arr w 52) (arr w 55) k := by rcases hlk with h | h <;> (try simp only [paysP, inB] at *) <;> (try simp only [b2_e0, b2_n0, Decidable.not_not] at *) <;> (try simp only [i_lt, i_le, i_eq, not_and, not_or, ne_eq, il_0, il_1, il_2, il_3, il_4, il_5, il_6, il_7, il_8, il_9, il_10, il_14, il_15, il_19, il_20, il_24, il_30, il_31, il_44, il_48, il_49, il_52, il_57, il_59, il_60, il_70, il_99, il_100, il_103, il_108, il_114, il_m1, il_m2, il_m3, il_m4, il_m9, il_m10, il_m100] at *) <;> omega
              refine x_aload_n (pc := 40) (i := 0) dX8_goNight_40 rfl rfl ?_
              refine x_getR (pc := 41) hS fX8_31 dX8_goNight_41 rfl rfl ?_
              refine x_iload_n (pc := 44) (i := 2) dX8_goNight_44 rfl rfl ?_
              refine x_dup2 (pc := 45) dX8_goNight_45 rfl rfl ?_
              refine x_aldN (pc := 46) hS dX8_goNight_46 rfl (by omega) (by decide) ?_
              refine x_aload_n (pc := 47) (i := 0) dX8_goNight_47 rfl rfl ?_
              refine x_getR (pc := 48) hS fX8_25 dX8_goNight_48 rfl rfl ?_
              refine x_iload_n (pc := 51) (i := 3) dX8_goNight_51 rfl rfl ?_
              refine x_ald (pc := 52) hS dX8_goNight_52 rfl (by rw [vp_in_iff]; rcases hlk with h | h <;> (try simp only [paysP, inB] at *) <;> (try simp only [b2_e0, b2_n0, Decidable.not_not] at *) <;> (try simp only [i_lt, i_le, i_eq, not_and, not_or, ne_eq, il_0, il_1, il_2, il_3, il_4, il_5, il_6, il_7, il_8, il_9, il_10, il_14, il_15, il_19, il_20, il_24, il_30, il_31, il_44, il_48, il_49, il_52, il_57, il_59, il_60, il_70, il_99, il_100, il_103, il_108, il_114, il_m1, il_m2, il_m3, il_m4, il_m9, il_m10, il_m100] at *) <;> omega) ?_
              refine x_isub (pc := 53) dX8_goNight_53 ?_
              refine x_astN (pc := 54) hS dX8_goNight_54 rfl (by omega) (by decide) (fun hS => ?_)
              refine x_goto (pc := 55) (tgt := 90) dX8_goNight_55 (by decide) ?_
              refine x_iinc (pc := 90) (L' := [_, _, _, _]) dX8_goNight_90 (by decide) rfl (by first | exact nI_inc _ | rfl) rfl ?_
              refine x_goto (pc := 93) (tgt := 4) dX8_goNight_93 (by decide) ?_
              refine K _ _ _ hkn ?_ ?_ (Or.inr ⟨_, rfl⟩)
              · first | exact hN.step (by decide) (by decide) rfl rfl rfl (if_pos hp).symm | (rw [arr_setA_a (by decide)]; exact hN.step (by decide) (by decide) rfl rfl rfl (if_neg hp).symm)
              · have ho := hN.out (aP := 50) (by decide)
                by_cases hoP : outP (fld w0 44 5) (arr w0 50) (arr w0 52) (arr w0 55) k = true
                · rw [cnt_t hoP]; first | exact nI_1 _ | (exfalso; have hz := mt ho.mp (not_not_intro hoP); clear ho; rcases hlk with h | h <;> (try simp only [paysP, inB] at *) <;> (try simp only [b2_e0, b2_n0, Decidable.not_not] at *) <;> (try simp only [i_lt, i_le, i_eq, not_and, not_or, ne_eq, il_0, il_1, il_2, il_3, il_4, il_5, il_6, il_7, il_8, il_9, il_10, il_14, il_15, il_19, il_20, il_24, il_30, il_31, il_44, il_48, il_49, il_52, il_57, il_59, il_60, il_70, il_99, il_100, il_103, il_108, il_114, il_m1, il_m2, il_m3, il_m4, il_m9, il_m10, il_m100] at *) <;> omega)
                · have e7 := cnt_f (p := outP (fld w0 44 5) (arr w0 50) (arr w0 52) (arr w0 55)) (k := k) (by simpa using hoP)
                  first | (rw [e7]; done) | (rw [e7]; exact Int32.add_zero _) | (exfalso; have hz := ho.mpr hoP; clear ho; rcases hlk with h | h <;> (try simp only [paysP, inB] at *) <;> (try simp only [b2_e0, b2_n0, Decidable.not_not] at *) <;> (try simp only [i_lt, i_le, i_eq, not_and, not_or, ne_eq, il_0, il_1, il_2, il_3, il_4, il_5, il_6, il_7, il_8, il_9, il_10, il_14, il_15, il_19, il_20, il_24, il_30, il_31, il_44, il_48, il_49, il_52, il_57, il_59, il_60, il_70, il_99, il_100, il_103, il_108, il_114, il_m1, il_m2, il_m3, il_m4, il_m9, il_m10, il_m100] at *) <;> omega)
      · skip
        refine x_iload_n (pc := 4) (i := 2) dX8_goNight_4 rfl rfl ?_
        refine x_aload_n (pc := 5) (i := 0) dX8_goNight_5 rfl rfl ?_
        refine x_getI (pc := 6) hS fX8_95 dX8_goNight_6 rfl rfl ?_
        refine x_icmp_ge (pc := 9) (tgt := 96) dX8_goNight_9 (by decide) (fun h9 => ?_) (fun h9 => ?_)
        · refine x_iload_n (pc := 96) (i := 1) dX8_goNight_96 rfl rfl ?_
          refine x_ri (pc := 97) dX8_goNight_97 rfl rfl ?_
          have e := show k = nw by (try simp only [b2_e0, b2_n0, Decidable.not_not] at *) <;> (try simp only [i_lt, i_le, i_eq, not_and, not_or, ne_eq, il_0, il_1, il_2, il_3, il_4, il_5, il_6, il_7, il_8, il_9, il_10, il_14, il_15, il_19, il_20, il_24, il_30, il_31, il_44, il_48, il_49, il_52, il_57, il_59, il_60, il_70, il_99, il_100, il_103, il_108, il_114, il_m1, il_m2, il_m3, il_m4, il_m9, il_m10, il_m100] at *) <;> omega
          subst e
          exact ⟨rfl, hN⟩
        · have hkn : k < nw := by (try simp only [b2_e0, b2_n0, Decidable.not_not] at *) <;> (try simp only [i_lt, i_le, i_eq, not_and, not_or, ne_eq, il_0, il_1, il_2, il_3, il_4, il_5, il_6, il_7, il_8, il_9, il_10, il_14, il_15, il_19, il_20, il_24, il_30, il_31, il_44, il_48, il_49, il_52, il_57, il_59, il_60, il_70, il_99, il_100, il_103, il_108, il_114, il_m1, il_m2, il_m3, il_m4, il_m9, il_m10, il_m100] at *) <;> omega
          have hlk : arr w 55 k = -9 ∨ inB (fld w0 44 5) (arr w 55) k := by rw [hN.2.2.2.1]; simp only [inB, nLo_k]; exact hlo k hkn
          refine x_aload_n (pc := 12) (i := 0) dX8_goNight_12 rfl rfl ?_
          refine x_getR (pc := 13) hS fX8_40 dX8_goNight_13 rfl rfl ?_
          refine x_iload_n (pc := 16) (i := 2) dX8_goNight_16 rfl rfl ?_
          refine x_aldN (pc := 17) hS dX8_goNight_17 rfl (by omega) (by decide) ?_
          refine x_istore_n (pc := 18) (i := 3) (L' := [_, _, _, _]) dX8_goNight_18 rfl (by decide) rfl ?_
          refine x_iload_n (pc := 19) (i := 3) dX8_goNight_19 rfl rfl ?_
          refine x_bipush (pc := 20) (v := (-9)) dX8_goNight_20 (by decide) ?_
          refine x_icmp_eq (pc := 22) (tgt := 58) dX8_goNight_22 (by decide) (fun h22 => ?_) (fun h22 => ?_)
          · have hp : ¬ paysP (fld w0 44 5) (arr w 50) (arr w 52) (arr w 55) k := by rcases hlk with h | h <;> (try simp only [paysP, inB] at *) <;> (try simp only [b2_e0, b2_n0, Decidable.not_not] at *) <;> (try simp only [i_lt, i_le, i_eq, not_and, not_or, ne_eq, il_0, il_1, il_2, il_3, il_4, il_5, il_6, il_7, il_8, il_9, il_10, il_14, il_15, il_19, il_20, il_24, il_30, il_31, il_44, il_48, il_49, il_52, il_57, il_59, il_60, il_70, il_99, il_100, il_103, il_108, il_114, il_m1, il_m2, il_m3, il_m4, il_m9, il_m10, il_m100] at *) <;> omega
            refine x_iload_n (pc := 58) (i := 1) dX8_goNight_58 rfl rfl ?_
            refine x_iload_n (pc := 59) (i := 3) dX8_goNight_59 rfl rfl ?_
            refine x_bipush (pc := 60) (v := (-9)) dX8_goNight_60 (by decide) ?_
            refine x_icmp_ne (pc := 62) (tgt := 69) dX8_goNight_62 (by decide) (fun h62 => ?_) (fun h62 => ?_)
            · refine x_iconst (pc := 69) (v := 1) dX8_goNight_69 (by decide) ?_
              refine x_iadd (pc := 70) dX8_goNight_70 ?_
              refine x_istore_n (pc := 71) (i := 1) (L' := [_, _, _, _]) dX8_goNight_71 rfl (by decide) rfl ?_
              refine x_aload_n (pc := 72) (i := 0) dX8_goNight_72 rfl rfl ?_
              refine x_getR (pc := 73) hS fX8_40 dX8_goNight_73 rfl rfl ?_
              refine x_iload_n (pc := 76) (i := 2) dX8_goNight_76 rfl rfl ?_
              refine x_bipush (pc := 77) (v := (-9)) dX8_goNight_77 (by decide) ?_
              refine x_astN (pc := 79) hS dX8_goNight_79 rfl (by omega) (by decide) (fun hS => ?_)
              refine x_aload_n (pc := 80) (i := 0) dX8_goNight_80 rfl rfl ?_
              refine x_getR (pc := 81) hS fX8_43 dX8_goNight_81 rfl rfl ?_
              refine x_iload_n (pc := 84) (i := 2) dX8_goNight_84 rfl rfl ?_
              refine x_dup2 (pc := 85) dX8_goNight_85 rfl rfl ?_
              refine x_aldN (pc := 86) hS dX8_goNight_86 rfl (by omega) (by decide) ?_
              refine x_iconst (pc := 87) (v := 1) dX8_goNight_87 (by decide) ?_
              refine x_iadd (pc := 88) dX8_goNight_88 ?_
              refine x_astN (pc := 89) hS dX8_goNight_89 rfl (by omega) (by decide) (fun hS => ?_)
              refine x_iinc (pc := 90) (L' := [_, _, _, _]) dX8_goNight_90 (by decide) rfl (by first | exact nI_inc _ | rfl) rfl ?_
              refine x_goto (pc := 93) (tgt := 4) dX8_goNight_93 (by decide) ?_
              refine K _ _ _ hkn ?_ ?_ (Or.inr ⟨_, rfl⟩)
              · first | exact hN.step (by decide) (by decide) rfl rfl rfl (if_pos hp).symm | (rw [arr_setA_a (by decide)]; exact hN.step (by decide) (by decide) rfl rfl rfl (if_neg hp).symm)
              · have ho := hN.out (aP := 50) (by decide)
                by_cases hoP : outP (fld w0 44 5) (arr w0 50) (arr w0 52) (arr w0 55) k = true
                · rw [cnt_t hoP]; first | exact nI_1 _ | (exfalso; have hz := mt ho.mp (not_not_intro hoP); clear ho; rcases hlk with h | h <;> (try simp only [paysP, inB] at *) <;> (try simp only [b2_e0, b2_n0, Decidable.not_not] at *) <;> (try simp only [i_lt, i_le, i_eq, not_and, not_or, ne_eq, il_0, il_1, il_2, il_3, il_4, il_5, il_6, il_7, il_8, il_9, il_10, il_14, il_15, il_19, il_20, il_24, il_30, il_31, il_44, il_48, il_49, il_52, il_57, il_59, il_60, il_70, il_99, il_100, il_103, il_108, il_114, il_m1, il_m2, il_m3, il_m4, il_m9, il_m10, il_m100] at *) <;> omega)
                · have e7 := cnt_f (p := outP (fld w0 44 5) (arr w0 50) (arr w0 52) (arr w0 55)) (k := k) (by simpa using hoP)
                  first | (rw [e7]; done) | (rw [e7]; exact Int32.add_zero _) | (exfalso; have hz := ho.mpr hoP; clear ho; rcases hlk with h | h <;> (try simp only [paysP, inB] at *) <;> (try simp only [b2_e0, b2_n0, Decidable.not_not] at *) <;> (try simp only [i_lt, i_le, i_eq, not_and, not_or, ne_eq, il_0, il_1, il_2, il_3, il_4, il_5, il_6, il_7, il_8, il_9, il_10, il_14, il_15, il_19, il_20, il_24, il_30, il_31, il_44, il_48, il_49, il_52, il_57, il_59, il_60, il_70, il_99, il_100, il_103, il_108, il_114, il_m1, il_m2, il_m3, il_m4, il_m9, il_m10, il_m100] at *) <;> omega)
            · refine x_iconst (pc := 65) (v := 0) dX8_goNight_65 (by decide) ?_
              refine x_goto (pc := 66) (tgt := 70) dX8_goNight_66 (by decide) ?_
              refine x_iadd (pc := 70) dX8_goNight_70 ?_
              refine x_istore_n (pc := 71) (i := 1) (L' := [_, _, _, _]) dX8_goNight_71 rfl (by decide) rfl ?_
              refine x_aload_n (pc := 72) (i := 0) dX8_goNight_72 rfl rfl ?_
              refine x_getR (pc := 73) hS fX8_40 dX8_goNight_73 rfl rfl ?_
              refine x_iload_n (pc := 76) (i := 2) dX8_goNight_76 rfl rfl ?_
              refine x_bipush (pc := 77) (v := (-9)) dX8_goNight_77 (by decide) ?_
              refine x_astN (pc := 79) hS dX8_goNight_79 rfl (by omega) (by decide) (fun hS => ?_)
              refine x_aload_n (pc := 80) (i := 0) dX8_goNight_80 rfl rfl ?_
              refine x_getR (pc := 81) hS fX8_43 dX8_goNight_81 rfl rfl ?_
              refine x_iload_n (pc := 84) (i := 2) dX8_goNight_84 rfl rfl ?_
              refine x_dup2 (pc := 85) dX8_goNight_85 rfl rfl ?_
              refine x_aldN (pc := 86) hS dX8_goNight_86 rfl (by omega) (by decide) ?_
              refine x_iconst (pc := 87) (v := 1) dX8_goNight_87 (by decide) ?_
              refine x_iadd (pc := 88) dX8_goNight_88 ?_
              refine x_astN (pc := 89) hS dX8_goNight_89 rfl (by omega) (by decide) (fun hS => ?_)
              refine x_iinc (pc := 90) (L' := [_, _, _, _]) dX8_goNight_90 (by decide) rfl (by first | exact nI_inc _ | rfl) rfl ?_
              refine x_goto (pc := 93) (tgt := 4) dX8_goNight_93 (by decide) ?_
              refine K _ _ _ hkn ?_ ?_ (Or.inr ⟨_, rfl⟩)
              · first | exact hN.step (by decide) (by decide) rfl rfl rfl (if_pos hp).symm | (rw [arr_setA_a (by decide)]; exact hN.step (by decide) (by decide) rfl rfl rfl (if_neg hp).symm)
              · have ho := hN.out (aP := 50) (by decide)
                by_cases hoP : outP (fld w0 44 5) (arr w0 50) (arr w0 52) (arr w0 55) k = true
                · rw [cnt_t hoP]; first | exact nI_1 _ | (exfalso; have hz := mt ho.mp (not_not_intro hoP); clear ho; rcases hlk with h | h <;> (try simp only [paysP, inB] at *) <;> (try simp only [b2_e0, b2_n0, Decidable.not_not] at *) <;> (try simp only [i_lt, i_le, i_eq, not_and, not_or, ne_eq, il_0, il_1, il_2, il_3, il_4, il_5, il_6, il_7, il_8, il_9, il_10, il_14, il_15, il_19, il_20, il_24, il_30, il_31, il_44, il_48, il_49, il_52, il_57, il_59, il_60, il_70, il_99, il_100, il_103, il_108, il_114, il_m1, il_m2, il_m3, il_m4, il_m9, il_m10, il_m100] at *) <;> omega)
                · have e7 := cnt_f (p := outP (fld w0 44 5) (arr w0 50) (arr w0 52) (arr w0 55)) (k := k) (by simpa using hoP)
                  first | (rw [e7]; done) | (rw [e7]; exact Int32.add_zero _) | (exfalso; have hz := ho.mpr hoP; clear ho; rcases hlk with h | h <;> (try simp only [paysP, inB] at *) <;> (try simp only [b2_e0, b2_n0, Decidable.not_not] at *) <;> (try simp only [i_lt, i_le, i_eq, not_and, not_or, ne_eq, il_0, il_1, il_2, il_3, il_4, il_5, il_6, il_7, il_8, il_9, il_10, il_14, il_15, il_19, il_20, il_24, il_30, il_31, il_44, il_48, il_49, il_52, il_57, il_59, il_60, il_70, il_99, il_100, il_103, il_108, il_114, il_m1, il_m2, il_m3, il_m4, il_m9, il_m10, il_m100] at *) <;> omega)
          · refine x_aload_n (pc := 25) (i := 0) dX8_goNight_25 rfl rfl ?_
            refine x_getR (pc := 26) hS fX8_25 dX8_goNight_26 rfl rfl ?_
            refine x_iload_n (pc := 29) (i := 3) dX8_goNight_29 rfl rfl ?_
            refine x_ald (pc := 30) hS dX8_goNight_30 rfl (by rw [vp_in_iff]; rcases hlk with h | h <;> (try simp only [paysP, inB] at *) <;> (try simp only [b2_e0, b2_n0, Decidable.not_not] at *) <;> (try simp only [i_lt, i_le, i_eq, not_and, not_or, ne_eq, il_0, il_1, il_2, il_3, il_4, il_5, il_6, il_7, il_8, il_9, il_10, il_14, il_15, il_19, il_20, il_24, il_30, il_31, il_44, il_48, il_49, il_52, il_57, il_59, il_60, il_70, il_99, il_100, il_103, il_108, il_114, il_m1, il_m2, il_m3, il_m4, il_m9, il_m10, il_m100] at *) <;> omega) ?_
            refine x_aload_n (pc := 31) (i := 0) dX8_goNight_31 rfl rfl ?_
            refine x_getR (pc := 32) hS fX8_31 dX8_goNight_32 rfl rfl ?_
            refine x_iload_n (pc := 35) (i := 2) dX8_goNight_35 rfl rfl ?_
            refine x_aldN (pc := 36) hS dX8_goNight_36 rfl (by omega) (by decide) ?_
            refine x_icmp_gt (pc := 37) (tgt := 58) dX8_goNight_37 (by decide) (fun h37 => ?_) (fun h37 => ?_)
            · have hp : ¬ paysP (fld w0 44 5) (arr w 50) (arr w 52) (arr w 55) k := by rcases hlk with h | h <;> (try simp only [paysP, inB] at *) <;> (try simp only [b2_e0, b2_n0, Decidable.not_not] at *) <;> (try simp only [i_lt, i_le, i_eq, not_and, not_or, ne_eq, il_0, il_1, il_2, il_3, il_4, il_5, il_6, il_7, il_8, il_9, il_10, il_14, il_15, il_19, il_20, il_24, il_30, il_31, il_44, il_48, il_49, il_52, il_57, il_59, il_60, il_70, il_99, il_100, il_103, il_108, il_114, il_m1, il_m2, il_m3, il_m4, il_m9, il_m10, il_m100] at *) <;> omega
              refine x_iload_n (pc := 58) (i := 1) dX8_goNight_58 rfl rfl ?_
              refine x_iload_n (pc := 59) (i := 3) dX8_goNight_59 rfl rfl ?_
              refine x_bipush (pc := 60) (v := (-9)) dX8_goNight_60 (by decide) ?_
              refine x_icmp_ne (pc := 62) (tgt := 69) dX8_goNight_62 (by decide) (fun h62 => ?_) (fun h62 => ?_)
              · refine x_iconst (pc := 69) (v := 1) dX8_goNight_69 (by decide) ?_
                refine x_iadd (pc := 70) dX8_goNight_70 ?_
                refine x_istore_n (pc := 71) (i := 1) (L' := [_, _, _, _]) dX8_goNight_71 rfl (by decide) rfl ?_
                refine x_aload_n (pc := 72) (i := 0) dX8_goNight_72 rfl rfl ?_
                refine x_getR (pc := 73) hS fX8_40 dX8_goNight_73 rfl rfl ?_
                refine x_iload_n (pc := 76) (i := 2) dX8_goNight_76 rfl rfl ?_
                refine x_bipush (pc := 77) (v := (-9)) dX8_goNight_77 (by decide) ?_
                refine x_astN (pc := 79) hS dX8_goNight_79 rfl (by omega) (by decide) (fun hS => ?_)
                refine x_aload_n (pc := 80) (i := 0) dX8_goNight_80 rfl rfl ?_
                refine x_getR (pc := 81) hS fX8_43 dX8_goNight_81 rfl rfl ?_
                refine x_iload_n (pc := 84) (i := 2) dX8_goNight_84 rfl rfl ?_
                refine x_dup2 (pc := 85) dX8_goNight_85 rfl rfl ?_
                refine x_aldN (pc := 86) hS dX8_goNight_86 rfl (by omega) (by decide) ?_
                refine x_iconst (pc := 87) (v := 1) dX8_goNight_87 (by decide) ?_
                refine x_iadd (pc := 88) dX8_goNight_88 ?_
                refine x_astN (pc := 89) hS dX8_goNight_89 rfl (by omega) (by decide) (fun hS => ?_)
                refine x_iinc (pc := 90) (L' := [_, _, _, _]) dX8_goNight_90 (by decide) rfl (by first | exact nI_inc _ | rfl) rfl ?_
                refine x_goto (pc := 93) (tgt := 4) dX8_goNight_93 (by decide) ?_
                refine K _ _ _ hkn ?_ ?_ (Or.inr ⟨_, rfl⟩)
                · first | exact hN.step (by decide) (by decide) rfl rfl rfl (if_pos hp).symm | (rw [arr_setA_a (by decide)]; exact hN.step (by decide) (by decide) rfl rfl rfl (if_neg hp).symm)
                · have ho := hN.out (aP := 50) (by decide)
                  by_cases hoP : outP (fld w0 44 5) (arr w0 50) (arr w0 52) (arr w0 55) k = true
                  · rw [cnt_t hoP]; first | exact nI_1 _ | (exfalso; have hz := mt ho.mp (not_not_intro hoP); clear ho; rcases hlk with h | h <;> (try simp only [paysP, inB] at *) <;> (try simp only [b2_e0, b2_n0, Decidable.not_not] at *) <;> (try simp only [i_lt, i_le, i_eq, not_and, not_or, ne_eq, il_0, il_1, il_2, il_3, il_4, il_5, il_6, il_7, il_8, il_9, il_10, il_14, il_15, il_19, il_20, il_24, il_30, il_31, il_44, il_48, il_49, il_52, il_57, il_59, il_60, il_70, il_99, il_100, il_103, il_108, il_114, il_m1, il_m2, il_m3, il_m4, il_m9, il_m10, il_m100] at *) <;> omega)
                  · have e7 := cnt_f (p := outP (fld w0 44 5) (arr w0 50) (arr w0 52) (arr w0 55)) (k := k) (by simpa using hoP)
                    first | (rw [e7]; done) | (rw [e7]; exact Int32.add_zero _) | (exfalso; have hz := ho.mpr hoP; clear ho; rcases hlk with h | h <;> (try simp only [paysP, inB] at *) <;> (try simp only [b2_e0, b2_n0, Decidable.not_not] at *) <;> (try simp only [i_lt, i_le, i_eq, not_and, not_or, ne_eq, il_0, il_1, il_2, il_3, il_4, il_5, il_6, il_7, il_8, il_9, il_10, il_14, il_15, il_19, il_20, il_24, il_30, il_31, il_44, il_48, il_49, il_52, il_57, il_59, il_60, il_70, il_99, il_100, il_103, il_108, il_114, il_m1, il_m2, il_m3, il_m4, il_m9, il_m10, il_m100] at *) <;> omega)
              · refine x_iconst (pc := 65) (v := 0) dX8_goNight_65 (by decide) ?_
                refine x_goto (pc := 66) (tgt := 70) dX8_goNight_66 (by decide) ?_
                refine x_iadd (pc := 70) dX8_goNight_70 ?_
                refine x_istore_n (pc := 71) (i := 1) (L' := [_, _, _, _]) dX8_goNight_71 rfl (by decide) rfl ?_
                refine x_aload_n (pc := 72) (i := 0) dX8_goNight_72 rfl rfl ?_
                refine x_getR (pc := 73) hS fX8_40 dX8_goNight_73 rfl rfl ?_
                refine x_iload_n (pc := 76) (i := 2) dX8_goNight_76 rfl rfl ?_
                refine x_bipush (pc := 77) (v := (-9)) dX8_goNight_77 (by decide) ?_
                refine x_astN (pc := 79) hS dX8_goNight_79 rfl (by omega) (by decide) (fun hS => ?_)
                refine x_aload_n (pc := 80) (i := 0) dX8_goNight_80 rfl rfl ?_
                refine x_getR (pc := 81) hS fX8_43 dX8_goNight_81 rfl rfl ?_
                refine x_iload_n (pc := 84) (i := 2) dX8_goNight_84 rfl rfl ?_
                refine x_dup2 (pc := 85) dX8_goNight_85 rfl rfl ?_
                refine x_aldN (pc := 86) hS dX8_goNight_86 rfl (by omega) (by decide) ?_
                refine x_iconst (pc := 87) (v := 1) dX8_goNight_87 (by decide) ?_
                refine x_iadd (pc := 88) dX8_goNight_88 ?_
                refine x_astN (pc := 89) hS dX8_goNight_89 rfl (by omega) (by decide) (fun hS => ?_)
                refine x_iinc (pc := 90) (L' := [_, _, _, _]) dX8_goNight_90 (by decide) rfl (by first | exact nI_inc _ | rfl) rfl ?_
                refine x_goto (pc := 93) (tgt := 4) dX8_goNight_93 (by decide) ?_
                refine K _ _ _ hkn ?_ ?_ (Or.inr ⟨_, rfl⟩)
                · first | exact hN.step (by decide) (by decide) rfl rfl rfl (if_pos hp).symm | (rw [arr_setA_a (by decide)]; exact hN.step (by decide) (by decide) rfl rfl rfl (if_neg hp).symm)
                · have ho := hN.out (aP := 50) (by decide)
                  by_cases hoP : outP (fld w0 44 5) (arr w0 50) (arr w0 52) (arr w0 55) k = true
                  · rw [cnt_t hoP]; first | exact nI_1 _ | (exfalso; have hz := mt ho.mp (not_not_intro hoP); clear ho; rcases hlk with h | h <;> (try simp only [paysP, inB] at *) <;> (try simp only [b2_e0, b2_n0, Decidable.not_not] at *) <;> (try simp only [i_lt, i_le, i_eq, not_and, not_or, ne_eq, il_0, il_1, il_2, il_3, il_4, il_5, il_6, il_7, il_8, il_9, il_10, il_14, il_15, il_19, il_20, il_24, il_30, il_31, il_44, il_48, il_49, il_52, il_57, il_59, il_60, il_70, il_99, il_100, il_103, il_108, il_114, il_m1, il_m2, il_m3, il_m4, il_m9, il_m10, il_m100] at *) <;> omega)
                  · have e7 := cnt_f (p := outP (fld w0 44 5) (arr w0 50) (arr w0 52) (arr w0 55)) (k := k) (by simpa using hoP)
                    first | (rw [e7]; done) | (rw [e7]; exact Int32.add_zero _) | (exfalso; have hz := ho.mpr hoP; clear ho; rcases hlk with h | h <;> (try simp only [paysP, inB] at *) <;> (try simp only [b2_e0, b2_n0, Decidable.not_not] at *) <;> (try simp only [i_lt, i_le, i_eq, not_and, not_or, ne_eq, il_0, il_1, il_2, il_3, il_4, il_5, il_6, il_7, il_8, il_9, il_10, il_14, il_15, il_19, il_20, il_24, il_30, il_31, il_44, il_48, il_49, il_52, il_57, il_59, il_60, il_70, il_99, il_100, il_103, il_108, il_114, il_m1, il_m2, il_m3, il_m4, il_m9, il_m10, il_m100] at *) <;> omega)
            · have hp : paysP (fld w0 44 5) (arr w 50) (arr w 52) (arr w 55) k := by rcases hlk with h | h <;> (try simp only [paysP, inB] at *) <;> (try simp only [b2_e0, b2_n0, Decidable.not_not] at *) <;> (try simp only [i_lt, i_le, i_eq, not_and, not_or, ne_eq, il_0, il_1, il_2, il_3, il_4, il_5, il_6, il_7, il_8, il_9, il_10, il_14, il_15, il_19, il_20, il_24, il_30, il_31, il_44, il_48, il_49, il_52, il_57, il_59, il_60, il_70, il_99, il_100, il_103, il_108, il_114, il_m1, il_m2, il_m3, il_m4, il_m9, il_m10, il_m100] at *) <;> omega
              refine x_aload_n (pc := 40) (i := 0) dX8_goNight_40 rfl rfl ?_
              refine x_getR (pc := 41) hS fX8_31 dX8_goNight_41 rfl rfl ?_
              refine x_iload_n (pc := 44) (i := 2) dX8_goNight_44 rfl rfl ?_
              refine x_dup2 (pc := 45) dX8_goNight_45 rfl rfl ?_
              refine x_aldN (pc := 46) hS dX8_goNight_46 rfl (by omega) (by decide) ?_
              refine x_aload_n (pc := 47) (i := 0) dX8_goNight_47 rfl rfl ?_
              refine x_getR (pc := 48) hS fX8_25 dX8_goNight_48 rfl rfl ?_
              refine x_iload_n (pc := 51) (i := 3) dX8_goNight_51 rfl rfl ?_
              refine x_ald (pc := 52) hS dX8_goNight_52 rfl (by rw [vp_in_iff]; rcases hlk with h | h <;> (try simp only [paysP, inB] at *) <;> (try simp only [b2_e0, b2_n0, Decidable.not_not] at *) <;> (try simp only [i_lt, i_le, i_eq, not_and, not_or, ne_eq, il_0, il_1, il_2, il_3, il_4, il_5, il_6, il_7, il_8, il_9, il_10, il_14, il_15, il_19, il_20, il_24, il_30, il_31, il_44, il_48, il_49, il_52, il_57, il_59, il_60, il_70, il_99, il_100, il_103, il_108, il_114, il_m1, il_m2, il_m3, il_m4, il_m9, il_m10, il_m100] at *) <;> omega) ?_
              refine x_isub (pc := 53) dX8_goNight_53 ?_
              refine x_astN (pc := 54) hS dX8_goNight_54 rfl (by omega) (by decide) (fun hS => ?_)
              refine x_goto (pc := 55) (tgt := 90) dX8_goNight_55 (by decide) ?_
              refine x_iinc (pc := 90) (L' := [_, _, _, _]) dX8_goNight_90 (by decide) rfl (by first | exact nI_inc _ | rfl) rfl ?_
              refine x_goto (pc := 93) (tgt := 4) dX8_goNight_93 (by decide) ?_
              refine K _ _ _ hkn ?_ ?_ (Or.inr ⟨_, rfl⟩)
              · first | exact hN.step (by decide) (by decide) rfl rfl rfl (if_pos hp).symm | (rw [arr_setA_a (by decide)]; exact hN.step (by decide) (by decide) rfl rfl rfl (if_neg hp).symm)
              · have ho := hN.out (aP := 50) (by decide)
                by_cases hoP : outP (fld w0 44 5) (arr w0 50) (arr w0 52) (arr w0 55) k = true
                · rw [cnt_t hoP]; first | exact nI_1 _ | (exfalso; have hz := mt ho.mp (not_not_intro hoP); clear ho; rcases hlk with h | h <;> (try simp only [paysP, inB] at *) <;> (try simp only [b2_e0, b2_n0, Decidable.not_not] at *) <;> (try simp only [i_lt, i_le, i_eq, not_and, not_or, ne_eq, il_0, il_1, il_2, il_3, il_4, il_5, il_6, il_7, il_8, il_9, il_10, il_14, il_15, il_19, il_20, il_24, il_30, il_31, il_44, il_48, il_49, il_52, il_57, il_59, il_60, il_70, il_99, il_100, il_103, il_108, il_114, il_m1, il_m2, il_m3, il_m4, il_m9, il_m10, il_m100] at *) <;> omega)
                · have e7 := cnt_f (p := outP (fld w0 44 5) (arr w0 50) (arr w0 52) (arr w0 55)) (k := k) (by simpa using hoP)
                  first | (rw [e7]; done) | (rw [e7]; exact Int32.add_zero _) | (exfalso; have hz := ho.mpr hoP; clear ho; rcases hlk with h | h <;> (try simp only [paysP, inB] at *) <;> (try simp only [b2_e0, b2_n0, Decidable.not_not] at *) <;> (try simp only [i_lt, i_le, i_eq, not_and, not_or, ne_eq, il_0, il_1, il_2, il_3, il_4, il_5, il_6, il_7, il_8, il_9, il_10, il_14, il_15, il_19, il_20, il_24, il_30, il_31, il_44, il_48, il_49, il_52, il_57, il_59, il_60, il_70, il_99, il_100, il_103, il_108, il_114, il_m1, il_m2, il_m3, il_m4, il_m9, il_m10, il_m100] at *) <;> omega)
  refine mC.of (L := [_, _, _, _]) okX8_goNight 3 rfl rfl ?_
  have hS := hS0
  refine x_iconst (pc := 0) (v := 0) dX8_goNight_0 (by decide) ?_
  refine x_istore_n (pc := 1) (i := 1) (L' := [_, _, _, _]) dX8_goNight_1 rfl (by decide) rfl ?_
  refine x_iconst (pc := 2) (v := 0) dX8_goNight_2 (by decide) ?_
  refine x_istore_n (pc := 3) (i := 2) (L' := [_, _, _, _]) dX8_goNight_3 rfl (by decide) rfl ?_
  exact lp (nw + 1) 0 .null w0 (Or.inl rfl) (nAt.zero hS) (by omega) (by omega)

