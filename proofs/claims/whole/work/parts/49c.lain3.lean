-- lain
theorem c_X8_lain_no {d : Nat} {w : mW} {sh l i k : Int32} (hS : Shape w) (h : ¬ ((0 ≤ sh ∧ sh ≤ 3) ∧ ((0 ≤ l ∧ l ≤ 2) ∧ (-1 ≤ k ∧ k ≤ 4)) ∧ ¬ fld w 44 5 = 0)) : mC (d + 2) kX8_lain [.ref 44, .int sh, .int l, .int i, .int k] w (fun r w' => r = some (.int (if 0 ≤ sh ∧ sh ≤ 3 then (if (0 ≤ l ∧ l ≤ 2) ∧ (-1 ≤ k ∧ k ≤ 4) then -3 else -2) else -1)) ∧ w' = setF w 44 0 0) := by
  refine mC.of (L := [_, _, _, _, _, _, _, _, _]) okX8_lain 4 rfl rfl ?_
  refine x_aload_n (pc := 0) (i := 0) dX8_lain_0 rfl rfl ?_
  refine x_iconst (pc := 1) (v := 0) dX8_lain_1 (by decide) ?_
  refine x_putI (pc := 2) hS fX8_82 dX8_lain_2 rfl rfl rfl rfl (fun hS => ?_)
  refine x_iload_n (pc := 5) (i := 1) dX8_lain_5 rfl rfl ?_
  refine x_ss (pc := 6) (As := [_]) rfl lX8_101 dX8_lain_6 rfl (Nat.le_of_ble_eq_true rfl) c_X8_isSheet ?_
  rintro _ _ ⟨rfl, hq⟩
  obtain rfl := hq.symm
  refine x_pushI ?_
  refine x_if_ne (pc := 9) (tgt := 14) dX8_lain_9 (by decide) (fun h9 => ?_) (fun h9 => ?_)
  · refine x_iload_n (pc := 14) (i := 2) dX8_lain_14 rfl rfl ?_
    refine x_ss (pc := 15) (As := [_]) rfl lX8_105 dX8_lain_15 rfl (Nat.le_of_ble_eq_true rfl) c_X8_isSort ?_
    rintro _ _ ⟨rfl, hq⟩
    obtain rfl := hq.symm
    refine x_pushI ?_
    refine x_if_eq (pc := 18) (tgt := 31) dX8_lain_18 (by decide) (fun h18 => ?_) (fun h18 => ?_)
    · refine x_bipush (pc := 31) (v := (-2)) dX8_lain_31 (by decide) ?_
      refine x_ri (pc := 33) dX8_lain_33 rfl rfl ?_
      refine ⟨?_, rfl⟩
      rw [if_pos (b2_n0.mp h9)]
      first | (have z9 := b2_e0.mp h18; rw [if_neg (fun z => z9 z.1)]) | (have z9 := b2_e0.mp h28; rw [if_neg (fun z => z9 z.2)])
    · refine x_iload (pc := 21) dX8_lain_21 rfl ?_
      refine x_iconst (pc := 23) (v := (-1)) dX8_lain_23 (by decide) ?_
      refine x_iconst (pc := 24) (v := 4) dX8_lain_24 (by decide) ?_
      refine x_ss (pc := 25) (As := [_, _, _]) rfl lX8_88 dX8_lain_25 rfl (Nat.le_of_ble_eq_true rfl) c_X8_within ?_
      rintro _ _ ⟨rfl, hq⟩
      obtain rfl := hq.symm
      refine x_pushI ?_
      refine x_if_ne (pc := 28) (tgt := 34) dX8_lain_28 (by decide) (fun h28 => ?_) (fun h28 => ?_)
      · refine x_aload_n (pc := 34) (i := 0) dX8_lain_34 rfl rfl ?_
        refine x_getI (pc := 35) hS fX8_92 dX8_lain_35 rfl rfl ?_
        rw [fld_setF_k (by decide)]
        refine x_if_ne (pc := 38) (tgt := 44) dX8_lain_38 (by decide) (fun h38 => ?_) (fun h38 => ?_)
        · exact absurd ⟨b2_n0.mp h9, ⟨b2_n0.mp h18, b2_n0.mp h28⟩, h38⟩ h
        · refine x_bipush (pc := 41) (v := (-3)) dX8_lain_41 (by decide) ?_
          refine x_ri (pc := 43) dX8_lain_43 rfl rfl ?_
          exact ⟨by rw [if_pos (b2_n0.mp h9), if_pos ⟨b2_n0.mp h18, b2_n0.mp h28⟩], rfl⟩
      · refine x_bipush (pc := 31) (v := (-2)) dX8_lain_31 (by decide) ?_
        refine x_ri (pc := 33) dX8_lain_33 rfl rfl ?_
        refine ⟨?_, rfl⟩
        rw [if_pos (b2_n0.mp h9)]
        first | (have z9 := b2_e0.mp h18; rw [if_neg (fun z => z9 z.1)]) | (have z9 := b2_e0.mp h28; rw [if_neg (fun z => z9 z.2)])
  · refine x_iconst (pc := 12) (v := (-1)) dX8_lain_12 (by decide) ?_
    refine x_ri (pc := 13) dX8_lain_13 rfl rfl ?_
    exact ⟨by rw [if_neg (b2_e0.mp h9)], rfl⟩
theorem c_X8_lain_f {d : Nat} {w : mW} {l i k : Int32} {s : Nat} (hS0 : Shape w) (hs : s < 4) (h : ((0 ≤ l ∧ l ≤ 2) ∧ (-1 ≤ k ∧ k ≤ 4)) ∧ ¬ fld w 44 5 = 0) (ha : ¬ agE (arr w 45 s) (arr w 46 s) l i (fld w 44 6) = 0) : mC (d + 2) kX8_lain [.ref 44, .int (nI s), .int l, .int i, .int k] w (fun r w' => r = some (.int (-10 - agE (arr w 45 s) (arr w 46 s) l i (fld w 44 6))) ∧ w' = setF w 44 0 (agE (arr w 45 s) (arr w 46 s) l i (fld w 44 6))) := by
  have ts : (nI s).toInt = (s : Int) := nI_toInt (by omega)
  have hS := hS0
  refine mC.of (L := [_, _, _, _, _, _, _, _, _]) okX8_lain 4 rfl rfl ?_
  refine x_aload_n (pc := 0) (i := 0) dX8_lain_0 rfl rfl ?_
  refine x_iconst (pc := 1) (v := 0) dX8_lain_1 (by decide) ?_
  refine x_putI (pc := 2) hS fX8_82 dX8_lain_2 rfl rfl rfl rfl (fun hS => ?_)
  refine x_iload_n (pc := 5) (i := 1) dX8_lain_5 rfl rfl ?_
  refine x_ss (pc := 6) (As := [_]) rfl lX8_101 dX8_lain_6 rfl (Nat.le_of_ble_eq_true rfl) c_X8_isSheet ?_
  rintro _ _ ⟨rfl, hq⟩
  obtain rfl := hq.symm
  refine x_pushI ?_
  refine x_if_ne (pc := 9) (tgt := 14) dX8_lain_9 (by decide) (fun h9 => ?_) (fun h9 => absurd h9 (by rw [b2_n0]; exact ⟨by (try simp only [b2_e0, b2_n0, Decidable.not_not] at *) <;> (try simp only [i_lt, i_le, i_eq, not_and, not_or, ne_eq, il_0, il_1, il_2, il_3, il_4, il_5, il_6, il_7, il_8, il_9, il_10, il_14, il_15, il_19, il_20, il_24, il_30, il_31, il_44, il_48, il_49, il_52, il_57, il_59, il_60, il_70, il_99, il_100, il_103, il_108, il_114, il_m1, il_m2, il_m3, il_m4, il_m9, il_m10, il_m100] at *) <;> omega, by (try simp only [b2_e0, b2_n0, Decidable.not_not] at *) <;> (try simp only [i_lt, i_le, i_eq, not_and, not_or, ne_eq, il_0, il_1, il_2, il_3, il_4, il_5, il_6, il_7, il_8, il_9, il_10, il_14, il_15, il_19, il_20, il_24, il_30, il_31, il_44, il_48, il_49, il_52, il_57, il_59, il_60, il_70, il_99, il_100, il_103, il_108, il_114, il_m1, il_m2, il_m3, il_m4, il_m9, il_m10, il_m100] at *) <;> omega⟩))
  refine x_iload_n (pc := 14) (i := 2) dX8_lain_14 rfl rfl ?_
  refine x_ss (pc := 15) (As := [_]) rfl lX8_105 dX8_lain_15 rfl (Nat.le_of_ble_eq_true rfl) c_X8_isSort ?_
  rintro _ _ ⟨rfl, hq⟩
  obtain rfl := hq.symm
  refine x_pushI ?_
  refine x_if_eq (pc := 18) (tgt := 31) dX8_lain_18 (by decide) (fun h18 => absurd h18 (by rw [b2_e0]; exact not_not_intro h.1.1)) (fun h18 => ?_)
  refine x_iload (pc := 21) dX8_lain_21 rfl ?_
  refine x_iconst (pc := 23) (v := (-1)) dX8_lain_23 (by decide) ?_
  refine x_iconst (pc := 24) (v := 4) dX8_lain_24 (by decide) ?_
  refine x_ss (pc := 25) (As := [_, _, _]) rfl lX8_88 dX8_lain_25 rfl (Nat.le_of_ble_eq_true rfl) c_X8_within ?_
  rintro _ _ ⟨rfl, hq⟩
  obtain rfl := hq.symm
  refine x_pushI ?_
  refine x_if_ne (pc := 28) (tgt := 34) dX8_lain_28 (by decide) (fun h28 => ?_) (fun h28 => absurd h28 (by rw [b2_n0]; exact h.1.2))
  refine x_aload_n (pc := 34) (i := 0) dX8_lain_34 rfl rfl ?_
  refine x_getI (pc := 35) hS fX8_92 dX8_lain_35 rfl rfl ?_
  rw [fld_setF_k (by decide)]
  refine x_if_ne (pc := 38) (tgt := 44) dX8_lain_38 (by decide) (fun h38 => ?_) (fun h38 => absurd h38 (by exact h.2))
  refine x_aload_n (pc := 44) (i := 0) dX8_lain_44 rfl rfl ?_
  refine x_iload_n (pc := 45) (i := 1) dX8_lain_45 rfl rfl ?_
  refine x_iload_n (pc := 46) (i := 2) dX8_lain_46 rfl rfl ?_
  refine x_iload_n (pc := 47) (i := 3) dX8_lain_47 rfl rfl ?_
  refine x_aload_n (pc := 48) (i := 0) dX8_lain_48 rfl rfl ?_
  refine x_getI (pc := 49) hS fX8_95 dX8_lain_49 rfl rfl ?_
  rw [fld_setF_k (by decide)]
  refine x_vs (pc := 52) (As := [_, _, _, _]) rfl hS lX8_108 dX8_lain_52 rfl rfl (Nat.le_of_ble_eq_true rfl) (c_X8_against hS hs) ?_
  rintro _ _ ⟨rfl, hq⟩
  obtain rfl := hq.symm
  refine x_pushI ?_
  rw [arr_setF, arr_setF]
  refine x_istore (pc := 55) (L' := [_, _, _, _, _, _, _, _, _]) dX8_lain_55 (by decide) rfl ?_
  refine x_iload (pc := 57) dX8_lain_57 rfl ?_
  refine x_if_eq (pc := 59) (tgt := 69) dX8_lain_59 (by decide) (fun h59 => absurd h59 (by exact ha)) (fun h59 => ?_)
  refine x_aload_n (pc := 62) (i := 0) dX8_lain_62 rfl rfl ?_
  refine x_iload (pc := 63) dX8_lain_63 rfl ?_
  refine x_vs (pc := 65) (As := [_]) rfl hS lX8_112 dX8_lain_65 rfl rfl (Nat.le_of_ble_eq_true rfl) (c_X8_fails hS) ?_
  rintro _ _ ⟨rfl, hq⟩
  obtain rfl := hq.symm
  refine x_pushI ?_
  refine x_ri (pc := 68) dX8_lain_68 rfl rfl ?_
  exact ⟨rfl, setF_setF _ _ _ _ _⟩
def lIs (k : Int32) (nw nb : Nat) (s : lSt) : Int32 := if 0 < s.1 ∧ (0 ≤ k ∧ k < nI nw) ∧ s.2 k.toNatClampNeg < nb then nI (s.2 k.toNatClampNeg) else -9
theorem lIs_0 {k : Int32} {nw nb : Nat} {s : lSt} (h : s.1 = 0) : lIs k nw nb s = -9 := by unfold lIs; rw [if_neg (by omega)]
theorem lIs_s {k : Int32} {nw nb : Nat} {s : lSt} (h : ¬ s.1 = 0) (t : Nat) : lIs k nw nb (t + 1, s.2) = lIs k nw nb s := by
  unfold lIs
  have e : (0 < t + 1 ∧ (0 ≤ k ∧ k < nI nw) ∧ s.2 k.toNatClampNeg < nb) = (0 < s.1 ∧ (0 ≤ k ∧ k < nI nw) ∧ s.2 k.toNatClampNeg < nb) := propext (by constructor <;> (rintro ⟨-, q⟩; exact ⟨by omega, q⟩))
  simp only [e]
theorem lIs_a {k : Int32} {nw nb t : Nat} {ρ : Nat → Nat} {s' : lSt} (hnw : nw ≤ 5) (hnb : nb ≤ 5) (hdl : ∀ i, ρ i ≤ nb) (h : (¬ (0 ≤ k ∧ k < nI nw)) ∨ (∃ j, j < nw ∧ k = nI j ∧ nb ≤ ρ j) ∨ False) : lIs k nw nb (t + 1, hTr nw ρ) = -9 := by
  unfold lIs
  rw [if_neg]
  rintro ⟨-, h2, h3⟩
  rcases h with h | ⟨j, hj, rfl, hl⟩ | h
  · exact h h2
  · rw [nI_clamp (by omega)] at h3
    simp only [hTr, if_pos hj] at h3
    omega
  · exact h
theorem lIs_b {nw nb t j : Nat} {ρ : Nat → Nat} {s' : lSt} (hnw : nw ≤ 5) (hj : j < nw) (h : ρ j < nb) : lIs (nI j) nw nb (t + 1, hTr nw ρ) = nI (ρ j) := by
  unfold lIs
  have e : hTr nw ρ j = ρ j := if_pos hj
  rw [nI_clamp (by omega)]
  simp only [e]
  rw [if_pos ⟨by omega, ⟨by rw [i_le, il_0, nI_toInt (by omega)]; omega, by rw [i_lt, nI_toInt (by omega), nI_toInt (by omega)]; omega⟩, h⟩]
theorem c_X8_lain_m {d : Nat} {w : mW} {l k : Int32} {s i0 nb nw : Nat} {H : Nat → Nat} (hS0 : Shape w) (hs : s < 4) (h : ((0 ≤ l ∧ l ≤ 2) ∧ (-1 ≤ k ∧ k ≤ 4)) ∧ ¬ fld w 44 5 = 0) (tb : (fld w 44 5).toInt = (nb : Int)) (hnb : nb ≤ 5) (tw : (fld w 44 6).toInt = (nw : Int)) (hnw : nw ≤ 5) (ha : agE (arr w 45 s) (arr w 46 s) l (nI i0) (nI nw) = 0) (hi : i0 + nw ≤ 60) (hki : ∀ b, b < nb → arr w 48 b = 0 ∨ arr w 48 b = 1 ∨ arr w 48 b = 2) (hH : ∀ b, b < nb → holdsE (arr w 48 b) (arr w 49 b) = nI (H b) ∧ H b ≤ 8) : mC (d + 5) kX8_lain [.ref 44, .int (nI s), .int l, .int (nI i0), .int k] w (fun r w' => r = some (.int (if k = -1 then nI (foldN (fun N s' => lF nb nw H (fun t => arr w 47 (60 * s + i0 + t)) false (digR (nb + 1) nw N) s') ((nb + 1) ^ nw) (0, fun _ => 0)).1 else lIs k nw nb (foldN (fun N s' => lF nb nw H (fun t => arr w 47 (60 * s + i0 + t)) false (digR (nb + 1) nw N) s') ((nb + 1) ^ nw) (0, fun _ => 0)))) ∧ ∃ row, w' = setA (setF w 44 0 0) 63 row) := by
  have ew := nI_ofT tw (by omega)
  have ts : (nI s).toInt = (s : Int) := nI_toInt (by omega)
  have hpw := pw_small (nb + 1) (by omega) nw hnw
  have tpw : (nI ((nb + 1) ^ nw)).toInt = (((nb + 1) ^ nw : Nat) : Int) := nI_toInt (by omega)
  have hSf : Shape (setF w 44 0 0) := hS0.stF rfl rfl _
  generalize hG : (fun (N : Nat) (s' : lSt) => lF nb nw H (fun t => arr w 47 (60 * s + i0 + t)) false (digR (nb + 1) nw N) s') = G
  have hGN : ∀ N s', G N s' = lF nb nw H (fun t => arr w 47 (60 * s + i0 + t)) false (digR (nb + 1) nw N) s' := fun N s' => by rw [← hG]
  have lp : ∀ (m N : Nat) (row : Nat → Int32) (is : Int32), N ≤ (nb + 1) ^ nw → (nb + 1) ^ nw < N + m → is = lIs k nw nb (foldN G N (0, fun _ => 0)) → mJ mX0 (d + 5) kX8_lain (fun r w' => r = some (.int (if k = -1 then nI (foldN G ((nb + 1) ^ nw) (0, fun _ => 0)).1 else lIs k nw nb (foldN G ((nb + 1) ^ nw) (0, fun _ => 0)))) ∧ ∃ row, w' = setA (setF w 44 0 0) 63 row) 79 [.ref 44, .int (nI s), .int l, .int (nI i0), .int k, .int 0, .int (nI (foldN G N (0, fun _ => 0)).1), .int is, .int (nI N)] [] (setA (setF w 44 0 0) 63 row) := by
    intro m
    induction m with
    | zero => intro N row is h1 h2; omega
    | succ m ih =>
      intro N row is hN1 hN2 his
      have tN : (nI N).toInt = (N : Int) := nI_toInt (by omega)
      have hcn : (foldN G N (0, fun _ => 0)).1 ≤ 0 + N * 1 := foldN_cnt (fun c _ s' => by
        rw [hGN]; unfold lF; split
        · exact Nat.le_succ _
        · exact Nat.le_refl _)
      have hsn : foldN G (N + 1) (0, fun _ => 0) = lF nb nw H (fun t => arr w 47 (60 * s + i0 + t)) false (digR (nb + 1) nw N) (foldN G N (0, fun _ => 0)) := hGN N _
      generalize hs' : foldN G N (0, fun _ => 0) = s' at his hcn hsn
      have tsn : (nI s'.1).toInt = (s'.1 : Int) := nI_toInt (by omega)
      generalize hR : rowF (nb + 1) nw N 0 row = R
      have hRi : ∀ i, i < nw → R i = nI (digR (nb + 1) nw N i) := fun i hi => by rw [← hR]; exact rowF_dig hi
      have hdl : ∀ i, digR (nb + 1) nw N i ≤ nb := fun i => digR_le
      generalize digR (nb + 1) nw N = ρ at hsn hRi hdl
      have hS : Shape (setA (setF w 44 0 0) 63 row) := hSf.stA _ _
      have tb' : (fld (setA (setF w 44 0 0) 63 row) 44 5).toInt = (nb : Int) := by rw [fld_setA, fld_setF_k (by decide)]; exact tb
      have tw' : (fld (setA (setF w 44 0 0) 63 row) 44 6).toInt = (nw : Int) := by rw [fld_setA, fld_setF_k (by decide)]; exact tw
      have tbR : (fld (setA (setF w 44 0 0) 63 R) 44 5).toInt = (nb : Int) := by rw [fld_setA, fld_setF_k (by decide)]; exact tb
      have twR : (fld (setA (setF w 44 0 0) 63 R) 44 6).toInt = (nw : Int) := by rw [fld_setA, fld_setF_k (by decide)]; exact tw
      have hAR : ∀ a, a ≠ 63 → arr (setA (setF w 44 0 0) 63 R) a = arr w a := fun a h => by rw [arr_setA_a h, arr_setF]
      refine x_iload (pc := 79) dX8_lain_79 rfl ?_
      refine x_aload_n (pc := 81) (i := 0) dX8_lain_81 rfl rfl ?_
      refine x_vs (pc := 82) (As := []) rfl hS lX8_215 dX8_lain_82 rfl rfl (Nat.le_of_ble_eq_true rfl) (c_X8_rowsOf hS tb' hnb tw' hnw) ?_
      rintro _ _ ⟨rfl, hq⟩
      obtain rfl := hq.symm
      refine x_pushI ?_
      refine x_icmp_ge (pc := 85) (tgt := 158) dX8_lain_85 (by decide) (fun h85 => ?_) (fun h85 => ?_)
      · have hN9 : N = (nb + 1) ^ nw := by (try simp only [b2_e0, b2_n0, Decidable.not_not] at *) <;> (try simp only [i_lt, i_le, i_eq, not_and, not_or, ne_eq, il_0, il_1, il_2, il_3, il_4, il_5, il_6, il_7, il_8, il_9, il_10, il_14, il_15, il_19, il_20, il_24, il_30, il_31, il_44, il_48, il_49, il_52, il_57, il_59, il_60, il_70, il_99, il_100, il_103, il_108, il_114, il_m1, il_m2, il_m3, il_m4, il_m9, il_m10, il_m100] at *) <;> omega
        refine x_iload (pc := 158) dX8_lain_158 rfl ?_
        refine x_iconst (pc := 160) (v := (-1)) dX8_lain_160 (by decide) ?_
        refine x_icmp_ne (pc := 161) (tgt := 169) dX8_lain_161 (by decide) (fun h161 => ?_) (fun h161 => ?_)
        · refine x_iload (pc := 169) dX8_lain_169 rfl ?_
          refine x_ri (pc := 171) dX8_lain_171 rfl rfl ?_
          refine ⟨?_, row, rfl⟩
          rw [← hN9, hs']
          first | rw [if_pos h161] | rw [if_neg h161, his]
        · refine x_iload (pc := 164) dX8_lain_164 rfl ?_
          refine x_goto (pc := 166) (tgt := 171) dX8_lain_166 (by decide) ?_
          refine x_ri (pc := 171) dX8_lain_171 rfl rfl ?_
          refine ⟨?_, row, rfl⟩
          rw [← hN9, hs']
          first | rw [if_pos h161] | rw [if_neg h161, his]
      · refine x_aload_n (pc := 88) (i := 0) dX8_lain_88 rfl rfl ?_
        refine x_iload (pc := 89) dX8_lain_89 rfl ?_
        refine x_vs (pc := 91) (As := [_]) rfl hS lX8_218 dX8_lain_91 rfl rfl (Nat.le_of_ble_eq_true rfl) (c_X8_rowOf hS tb' hnb tw' hnw (by omega)) ?_
        rintro _ _ ⟨rfl, hq⟩
        rw [arr_setA hSf rfl, hR, setA_setA] at hq
        obtain rfl := hq.symm
        have hS : Shape (setA (setF w 44 0 0) 63 R) := hSf.stA _ _
        refine x_pushV ?_
        refine x_aload_n (pc := 94) (i := 0) dX8_lain_94 rfl rfl ?_
        refine x_bipush (pc := 95) (v := 60) dX8_lain_95 (by decide) ?_
        refine x_iload_n (pc := 97) (i := 1) dX8_lain_97 rfl rfl ?_
        refine x_imul (pc := 98) dX8_lain_98 ?_
        refine x_iload_n (pc := 99) (i := 3) dX8_lain_99 rfl rfl ?_
        refine x_iadd (pc := 100) dX8_lain_100 ?_
        rw [show (60 : Int32) * nI s = nI (60 * s) from pk_mul 60 s, nI_add]
        refine x_vs (pc := 101) (As := [_]) rfl hS lX8_235 dX8_lain_101 rfl rfl (Nat.le_of_ble_eq_true rfl) (c_X8_areDreams (H := H) (ρ := ρ) hS tbR hnb twR hnw (by rw [hAR 48 (by decide)]; exact hki) (by rw [hAR 48 (by decide), hAR 49 (by decide)]; exact hH) (by rw [arr_setA hSf rfl]; exact fun i hi => ⟨hRi i hi, hdl i⟩) (by omega)) ?_
        rintro _ _ ⟨rfl, hq⟩
        obtain rfl := hq.symm
        refine x_pushI ?_
        rw [hAR 47 (by decide)]
        refine x_if_eq (pc := 104) (tgt := 152) dX8_lain_104 (by decide) (fun h104 => ?_) (fun h104 => ?_)
        · refine x_iinc (pc := 152) (L' := [_, _, _, _, _, _, _, _, _]) dX8_lain_152 (by decide) rfl (by first | exact nI_inc _ | rfl) rfl ?_
          refine x_goto (pc := 155) (tgt := 79) dX8_lain_155 (by decide) ?_
          first | (have z9 := b2_e0.mp h104; have h9 := ih (N + 1) R is (by (try simp only [b2_e0, b2_n0, Decidable.not_not] at *) <;> (try simp only [i_lt, i_le, i_eq, not_and, not_or, ne_eq, il_0, il_1, il_2, il_3, il_4, il_5, il_6, il_7, il_8, il_9, il_10, il_14, il_15, il_19, il_20, il_24, il_30, il_31, il_44, il_48, il_49, il_52, il_57, il_59, il_60, il_70, il_99, il_100, il_103, il_108, il_114, il_m1, il_m2, il_m3, il_m4, il_m9, il_m10, il_m100] at *) <;> omega) (by omega) (by rw [hsn, lF_2 z9]; exact his); rw [hsn, lF_2 z9] at h9; exact h9) | (have z9 := b2_n0.mp h104; have zf : ¬ (false = true ∧ 0 < s'.1) := (fun q => by cases q.1); have h9 := ih (N + 1) R _ (by (try simp only [b2_e0, b2_n0, Decidable.not_not] at *) <;> (try simp only [i_lt, i_le, i_eq, not_and, not_or, ne_eq, il_0, il_1, il_2, il_3, il_4, il_5, il_6, il_7, il_8, il_9, il_10, il_14, il_15, il_19, il_20, il_24, il_30, il_31, il_44, il_48, il_49, il_52, il_57, il_59, il_60, il_70, il_99, il_100, il_103, il_108, il_114, il_m1, il_m2, il_m3, il_m4, il_m9, il_m10, il_m100] at *) <;> omega) (by omega) rfl; rw [hsn, lF_3 zf z9] at h9; first | (have z8 : ¬ s'.1 = 0 := (fun q => h109 (by rw [q]; rfl)); simp only [if_neg z8] at h9; rw [lIs_s z8 s'.1, ← his] at h9; exact h9) | (have z8 : s'.1 = 0 := (by by_cases q : s'.1 = 0; exact q; exact absurd h109 (nI_ne0 (by omega) (by omega))); simp only [if_pos z8] at h9; rw [his, lIs_0 z8]; rw [lIs_a (ρ := ρ) (nb := nb) (s' := s') hnw hnb hdl (by first | exact Or.inl (b2_e0.mp h118) | exact Or.inr (Or.inl ⟨j, hj, rfl, by (try simp only [b2_e0, b2_n0, Decidable.not_not] at *) <;> (try simp only [i_lt, i_le, i_eq, not_and, not_or, ne_eq, il_0, il_1, il_2, il_3, il_4, il_5, il_6, il_7, il_8, il_9, il_10, il_14, il_15, il_19, il_20, il_24, il_30, il_31, il_44, il_48, il_49, il_52, il_57, il_59, il_60, il_70, il_99, il_100, il_103, il_108, il_114, il_m1, il_m2, il_m3, il_m4, il_m9, il_m10, il_m100] at *) <;> omega⟩))] at h9; exact h9) | (have z8 : s'.1 = 0 := (by by_cases q : s'.1 = 0; exact q; exact absurd h109 (nI_ne0 (by omega) (by omega))); simp only [if_pos z8] at h9; rw [lIs_b (ρ := ρ) (nb := nb) (s' := s') hnw hj (by (try simp only [b2_e0, b2_n0, Decidable.not_not] at *) <;> (try simp only [i_lt, i_le, i_eq, not_and, not_or, ne_eq, il_0, il_1, il_2, il_3, il_4, il_5, il_6, il_7, il_8, il_9, il_10, il_14, il_15, il_19, il_20, il_24, il_30, il_31, il_44, il_48, il_49, il_52, il_57, il_59, il_60, il_70, il_99, il_100, il_103, il_108, il_114, il_m1, il_m2, il_m3, il_m4, il_m9, il_m10, il_m100] at *) <;> omega)] at h9; exact h9))
        · refine x_iload (pc := 107) dX8_lain_107 rfl ?_
          refine x_if_ne (pc := 109) (tgt := 145) dX8_lain_109 (by decide) (fun h109 => ?_) (fun h109 => ?_)
          · refine x_iload (pc := 145) dX8_lain_145 rfl ?_
            refine x_istore (pc := 147) (L' := [_, _, _, _, _, _, _, _, _]) dX8_lain_147 (by decide) rfl ?_
            refine x_iinc (pc := 149) (L' := [_, _, _, _, _, _, _, _, _]) dX8_lain_149 (by decide) rfl (nI_inc _) rfl ?_
            refine x_iinc (pc := 152) (L' := [_, _, _, _, _, _, _, _, _]) dX8_lain_152 (by decide) rfl (by first | exact nI_inc _ | rfl) rfl ?_
            refine x_goto (pc := 155) (tgt := 79) dX8_lain_155 (by decide) ?_
            first | (have z9 := b2_e0.mp h104; have h9 := ih (N + 1) R is (by (try simp only [b2_e0, b2_n0, Decidable.not_not] at *) <;> (try simp only [i_lt, i_le, i_eq, not_and, not_or, ne_eq, il_0, il_1, il_2, il_3, il_4, il_5, il_6, il_7, il_8, il_9, il_10, il_14, il_15, il_19, il_20, il_24, il_30, il_31, il_44, il_48, il_49, il_52, il_57, il_59, il_60, il_70, il_99, il_100, il_103, il_108, il_114, il_m1, il_m2, il_m3, il_m4, il_m9, il_m10, il_m100] at *) <;> omega) (by omega) (by rw [hsn, lF_2 z9]; exact his); rw [hsn, lF_2 z9] at h9; exact h9) | (have z9 := b2_n0.mp h104; have zf : ¬ (false = true ∧ 0 < s'.1) := (fun q => by cases q.1); have h9 := ih (N + 1) R _ (by (try simp only [b2_e0, b2_n0, Decidable.not_not] at *) <;> (try simp only [i_lt, i_le, i_eq, not_and, not_or, ne_eq, il_0, il_1, il_2, il_3, il_4, il_5, il_6, il_7, il_8, il_9, il_10, il_14, il_15, il_19, il_20, il_24, il_30, il_31, il_44, il_48, il_49, il_52, il_57, il_59, il_60, il_70, il_99, il_100, il_103, il_108, il_114, il_m1, il_m2, il_m3, il_m4, il_m9, il_m10, il_m100] at *) <;> omega) (by omega) rfl; rw [hsn, lF_3 zf z9] at h9; first | (have z8 : ¬ s'.1 = 0 := (fun q => h109 (by rw [q]; rfl)); simp only [if_neg z8] at h9; rw [lIs_s z8 s'.1, ← his] at h9; exact h9) | (have z8 : s'.1 = 0 := (by by_cases q : s'.1 = 0; exact q; exact absurd h109 (nI_ne0 (by omega) (by omega))); simp only [if_pos z8] at h9; rw [his, lIs_0 z8]; rw [lIs_a (ρ := ρ) (nb := nb) (s' := s') hnw hnb hdl (by first | exact Or.inl (b2_e0.mp h118) | exact Or.inr (Or.inl ⟨j, hj, rfl, by (try simp only [b2_e0, b2_n0, Decidable.not_not] at *) <;> (try simp only [i_lt, i_le, i_eq, not_and, not_or, ne_eq, il_0, il_1, il_2, il_3, il_4, il_5, il_6, il_7, il_8, il_9, il_10, il_14, il_15, il_19, il_20, il_24, il_30, il_31, il_44, il_48, il_49, il_52, il_57, il_59, il_60, il_70, il_99, il_100, il_103, il_108, il_114, il_m1, il_m2, il_m3, il_m4, il_m9, il_m10, il_m100] at *) <;> omega⟩))] at h9; exact h9) | (have z8 : s'.1 = 0 := (by by_cases q : s'.1 = 0; exact q; exact absurd h109 (nI_ne0 (by omega) (by omega))); simp only [if_pos z8] at h9; rw [lIs_b (ρ := ρ) (nb := nb) (s' := s') hnw hj (by (try simp only [b2_e0, b2_n0, Decidable.not_not] at *) <;> (try simp only [i_lt, i_le, i_eq, not_and, not_or, ne_eq, il_0, il_1, il_2, il_3, il_4, il_5, il_6, il_7, il_8, il_9, il_10, il_14, il_15, il_19, il_20, il_24, il_30, il_31, il_44, il_48, il_49, il_52, il_57, il_59, il_60, il_70, il_99, il_100, il_103, il_108, il_114, il_m1, il_m2, il_m3, il_m4, il_m9, il_m10, il_m100] at *) <;> omega)] at h9; exact h9))
          · refine x_aload_n (pc := 112) (i := 0) dX8_lain_112 rfl rfl ?_
            refine x_iload (pc := 113) dX8_lain_113 rfl ?_
            refine x_vs (pc := 115) (As := [_]) rfl hS lX8_161 dX8_lain_115 rfl rfl (Nat.le_of_ble_eq_true rfl) (c_X8_isWalker hS) ?_
            rintro _ _ ⟨rfl, hq⟩
            obtain rfl := hq.symm
            refine x_pushI ?_
            rw [nI_ofT twR (by omega)]
            refine x_if_eq (pc := 118) (tgt := 145) dX8_lain_118 (by decide) (fun h118 => ?_) (fun h118 => ?_)
            · refine x_iload (pc := 145) dX8_lain_145 rfl ?_
              refine x_istore (pc := 147) (L' := [_, _, _, _, _, _, _, _, _]) dX8_lain_147 (by decide) rfl ?_
              refine x_iinc (pc := 149) (L' := [_, _, _, _, _, _, _, _, _]) dX8_lain_149 (by decide) rfl (nI_inc _) rfl ?_
              refine x_iinc (pc := 152) (L' := [_, _, _, _, _, _, _, _, _]) dX8_lain_152 (by decide) rfl (by first | exact nI_inc _ | rfl) rfl ?_
              refine x_goto (pc := 155) (tgt := 79) dX8_lain_155 (by decide) ?_
              first | (have z9 := b2_e0.mp h104; have h9 := ih (N + 1) R is (by (try simp only [b2_e0, b2_n0, Decidable.not_not] at *) <;> (try simp only [i_lt, i_le, i_eq, not_and, not_or, ne_eq, il_0, il_1, il_2, il_3, il_4, il_5, il_6, il_7, il_8, il_9, il_10, il_14, il_15, il_19, il_20, il_24, il_30, il_31, il_44, il_48, il_49, il_52, il_57, il_59, il_60, il_70, il_99, il_100, il_103, il_108, il_114, il_m1, il_m2, il_m3, il_m4, il_m9, il_m10, il_m100] at *) <;> omega) (by omega) (by rw [hsn, lF_2 z9]; exact his); rw [hsn, lF_2 z9] at h9; exact h9) | (have z9 := b2_n0.mp h104; have zf : ¬ (false = true ∧ 0 < s'.1) := (fun q => by cases q.1); have h9 := ih (N + 1) R _ (by (try simp only [b2_e0, b2_n0, Decidable.not_not] at *) <;> (try simp only [i_lt, i_le, i_eq, not_and, not_or, ne_eq, il_0, il_1, il_2, il_3, il_4, il_5, il_6, il_7, il_8, il_9, il_10, il_14, il_15, il_19, il_20, il_24, il_30, il_31, il_44, il_48, il_49, il_52, il_57, il_59, il_60, il_70, il_99, il_100, il_103, il_108, il_114, il_m1, il_m2, il_m3, il_m4, il_m9, il_m10, il_m100] at *) <;> omega) (by omega) rfl; rw [hsn, lF_3 zf z9] at h9; first | (have z8 : ¬ s'.1 = 0 := (fun q => h109 (by rw [q]; rfl)); simp only [if_neg z8] at h9; rw [lIs_s z8 s'.1, ← his] at h9; exact h9) | (have z8 : s'.1 = 0 := (by by_cases q : s'.1 = 0; exact q; exact absurd h109 (nI_ne0 (by omega) (by omega))); simp only [if_pos z8] at h9; rw [his, lIs_0 z8]; rw [lIs_a (ρ := ρ) (nb := nb) (s' := s') hnw hnb hdl (by first | exact Or.inl (b2_e0.mp h118) | exact Or.inr (Or.inl ⟨j, hj, rfl, by (try simp only [b2_e0, b2_n0, Decidable.not_not] at *) <;> (try simp only [i_lt, i_le, i_eq, not_and, not_or, ne_eq, il_0, il_1, il_2, il_3, il_4, il_5, il_6, il_7, il_8, il_9, il_10, il_14, il_15, il_19, il_20, il_24, il_30, il_31, il_44, il_48, il_49, il_52, il_57, il_59, il_60, il_70, il_99, il_100, il_103, il_108, il_114, il_m1, il_m2, il_m3, il_m4, il_m9, il_m10, il_m100] at *) <;> omega⟩))] at h9; exact h9) | (have z8 : s'.1 = 0 := (by by_cases q : s'.1 = 0; exact q; exact absurd h109 (nI_ne0 (by omega) (by omega))); simp only [if_pos z8] at h9; rw [lIs_b (ρ := ρ) (nb := nb) (s' := s') hnw hj (by (try simp only [b2_e0, b2_n0, Decidable.not_not] at *) <;> (try simp only [i_lt, i_le, i_eq, not_and, not_or, ne_eq, il_0, il_1, il_2, il_3, il_4, il_5, il_6, il_7, il_8, il_9, il_10, il_14, il_15, il_19, il_20, il_24, il_30, il_31, il_44, il_48, il_49, il_52, il_57, il_59, il_60, il_70, il_99, il_100, il_103, il_108, il_114, il_m1, il_m2, il_m3, il_m4, il_m9, il_m10, il_m100] at *) <;> omega)] at h9; exact h9))
            · obtain ⟨j, hj, rfl⟩ := in_nI (x := nI nw) (n := nw) (nI_toInt (by omega)) (by omega) (b2_n0.mp h118)
              have cj : (nI j).toNatClampNeg = j := nI_clamp (by omega)
              have trj : (nI (ρ j)).toInt = (ρ j : Int) := nI_toInt (by have := hdl j; omega)
              refine x_aload_n (pc := 121) (i := 0) dX8_lain_121 rfl rfl ?_
              refine x_getR (pc := 122) hS fX8_64 dX8_lain_122 rfl rfl ?_
              refine x_iload (pc := 125) dX8_lain_125 rfl ?_
              refine x_aldN (pc := 127) hS dX8_lain_127 rfl (by omega) (by decide) ?_
              rw [arr_setA hSf rfl, hRi j hj]
              refine x_aload_n (pc := 128) (i := 0) dX8_lain_128 rfl rfl ?_
              refine x_getI (pc := 129) hS fX8_92 dX8_lain_129 rfl rfl ?_
              refine x_icmp_ge (pc := 132) (tgt := 145) dX8_lain_132 (by decide) (fun h132 => ?_) (fun h132 => ?_)
              · refine x_iload (pc := 145) dX8_lain_145 rfl ?_
                refine x_istore (pc := 147) (L' := [_, _, _, _, _, _, _, _, _]) dX8_lain_147 (by decide) rfl ?_
                refine x_iinc (pc := 149) (L' := [_, _, _, _, _, _, _, _, _]) dX8_lain_149 (by decide) rfl (nI_inc _) rfl ?_
                refine x_iinc (pc := 152) (L' := [_, _, _, _, _, _, _, _, _]) dX8_lain_152 (by decide) rfl (by first | exact nI_inc _ | rfl) rfl ?_
                refine x_goto (pc := 155) (tgt := 79) dX8_lain_155 (by decide) ?_
                first | (have z9 := b2_e0.mp h104; have h9 := ih (N + 1) R is (by (try simp only [b2_e0, b2_n0, Decidable.not_not] at *) <;> (try simp only [i_lt, i_le, i_eq, not_and, not_or, ne_eq, il_0, il_1, il_2, il_3, il_4, il_5, il_6, il_7, il_8, il_9, il_10, il_14, il_15, il_19, il_20, il_24, il_30, il_31, il_44, il_48, il_49, il_52, il_57, il_59, il_60, il_70, il_99, il_100, il_103, il_108, il_114, il_m1, il_m2, il_m3, il_m4, il_m9, il_m10, il_m100] at *) <;> omega) (by omega) (by rw [hsn, lF_2 z9]; exact his); rw [hsn, lF_2 z9] at h9; exact h9) | (have z9 := b2_n0.mp h104; have zf : ¬ (false = true ∧ 0 < s'.1) := (fun q => by cases q.1); have h9 := ih (N + 1) R _ (by (try simp only [b2_e0, b2_n0, Decidable.not_not] at *) <;> (try simp only [i_lt, i_le, i_eq, not_and, not_or, ne_eq, il_0, il_1, il_2, il_3, il_4, il_5, il_6, il_7, il_8, il_9, il_10, il_14, il_15, il_19, il_20, il_24, il_30, il_31, il_44, il_48, il_49, il_52, il_57, il_59, il_60, il_70, il_99, il_100, il_103, il_108, il_114, il_m1, il_m2, il_m3, il_m4, il_m9, il_m10, il_m100] at *) <;> omega) (by omega) rfl; rw [hsn, lF_3 zf z9] at h9; first | (have z8 : ¬ s'.1 = 0 := (fun q => h109 (by rw [q]; rfl)); simp only [if_neg z8] at h9; rw [lIs_s z8 s'.1, ← his] at h9; exact h9) | (have z8 : s'.1 = 0 := (by by_cases q : s'.1 = 0; exact q; exact absurd h109 (nI_ne0 (by omega) (by omega))); simp only [if_pos z8] at h9; rw [his, lIs_0 z8]; rw [lIs_a (ρ := ρ) (nb := nb) (s' := s') hnw hnb hdl (by first | exact Or.inl (b2_e0.mp h118) | exact Or.inr (Or.inl ⟨j, hj, rfl, by (try simp only [b2_e0, b2_n0, Decidable.not_not] at *) <;> (try simp only [i_lt, i_le, i_eq, not_and, not_or, ne_eq, il_0, il_1, il_2, il_3, il_4, il_5, il_6, il_7, il_8, il_9, il_10, il_14, il_15, il_19, il_20, il_24, il_30, il_31, il_44, il_48, il_49, il_52, il_57, il_59, il_60, il_70, il_99, il_100, il_103, il_108, il_114, il_m1, il_m2, il_m3, il_m4, il_m9, il_m10, il_m100] at *) <;> omega⟩))] at h9; exact h9) | (have z8 : s'.1 = 0 := (by by_cases q : s'.1 = 0; exact q; exact absurd h109 (nI_ne0 (by omega) (by omega))); simp only [if_pos z8] at h9; rw [lIs_b (ρ := ρ) (nb := nb) (s' := s') hnw hj (by (try simp only [b2_e0, b2_n0, Decidable.not_not] at *) <;> (try simp only [i_lt, i_le, i_eq, not_and, not_or, ne_eq, il_0, il_1, il_2, il_3, il_4, il_5, il_6, il_7, il_8, il_9, il_10, il_14, il_15, il_19, il_20, il_24, il_30, il_31, il_44, il_48, il_49, il_52, il_57, il_59, il_60, il_70, il_99, il_100, il_103, il_108, il_114, il_m1, il_m2, il_m3, il_m4, il_m9, il_m10, il_m100] at *) <;> omega)] at h9; exact h9))
              · refine x_aload_n (pc := 135) (i := 0) dX8_lain_135 rfl rfl ?_
                refine x_getR (pc := 136) hS fX8_64 dX8_lain_136 rfl rfl ?_
                refine x_iload (pc := 139) dX8_lain_139 rfl ?_
                refine x_aldN (pc := 141) hS dX8_lain_141 rfl (by omega) (by decide) ?_
                rw [arr_setA hSf rfl, hRi j hj]
                refine x_goto (pc := 142) (tgt := 147) dX8_lain_142 (by decide) ?_
                refine x_istore (pc := 147) (L' := [_, _, _, _, _, _, _, _, _]) dX8_lain_147 (by decide) rfl ?_
                refine x_iinc (pc := 149) (L' := [_, _, _, _, _, _, _, _, _]) dX8_lain_149 (by decide) rfl (nI_inc _) rfl ?_
                refine x_iinc (pc := 152) (L' := [_, _, _, _, _, _, _, _, _]) dX8_lain_152 (by decide) rfl (by first | exact nI_inc _ | rfl) rfl ?_
                refine x_goto (pc := 155) (tgt := 79) dX8_lain_155 (by decide) ?_
                first | (have z9 := b2_e0.mp h104; have h9 := ih (N + 1) R is (by (try simp only [b2_e0, b2_n0, Decidable.not_not] at *) <;> (try simp only [i_lt, i_le, i_eq, not_and, not_or, ne_eq, il_0, il_1, il_2, il_3, il_4, il_5, il_6, il_7, il_8, il_9, il_10, il_14, il_15, il_19, il_20, il_24, il_30, il_31, il_44, il_48, il_49, il_52, il_57, il_59, il_60, il_70, il_99, il_100, il_103, il_108, il_114, il_m1, il_m2, il_m3, il_m4, il_m9, il_m10, il_m100] at *) <;> omega) (by omega) (by rw [hsn, lF_2 z9]; exact his); rw [hsn, lF_2 z9] at h9; exact h9) | (have z9 := b2_n0.mp h104; have zf : ¬ (false = true ∧ 0 < s'.1) := (fun q => by cases q.1); have h9 := ih (N + 1) R _ (by (try simp only [b2_e0, b2_n0, Decidable.not_not] at *) <;> (try simp only [i_lt, i_le, i_eq, not_and, not_or, ne_eq, il_0, il_1, il_2, il_3, il_4, il_5, il_6, il_7, il_8, il_9, il_10, il_14, il_15, il_19, il_20, il_24, il_30, il_31, il_44, il_48, il_49, il_52, il_57, il_59, il_60, il_70, il_99, il_100, il_103, il_108, il_114, il_m1, il_m2, il_m3, il_m4, il_m9, il_m10, il_m100] at *) <;> omega) (by omega) rfl; rw [hsn, lF_3 zf z9] at h9; first | (have z8 : ¬ s'.1 = 0 := (fun q => h109 (by rw [q]; rfl)); simp only [if_neg z8] at h9; rw [lIs_s z8 s'.1, ← his] at h9; exact h9) | (have z8 : s'.1 = 0 := (by by_cases q : s'.1 = 0; exact q; exact absurd h109 (nI_ne0 (by omega) (by omega))); simp only [if_pos z8] at h9; rw [his, lIs_0 z8]; rw [lIs_a (ρ := ρ) (nb := nb) (s' := s') hnw hnb hdl (by first | exact Or.inl (b2_e0.mp h118) | exact Or.inr (Or.inl ⟨j, hj, rfl, by (try simp only [b2_e0, b2_n0, Decidable.not_not] at *) <;> (try simp only [i_lt, i_le, i_eq, not_and, not_or, ne_eq, il_0, il_1, il_2, il_3, il_4, il_5, il_6, il_7, il_8, il_9, il_10, il_14, il_15, il_19, il_20, il_24, il_30, il_31, il_44, il_48, il_49, il_52, il_57, il_59, il_60, il_70, il_99, il_100, il_103, il_108, il_114, il_m1, il_m2, il_m3, il_m4, il_m9, il_m10, il_m100] at *) <;> omega⟩))] at h9; exact h9) | (have z8 : s'.1 = 0 := (by by_cases q : s'.1 = 0; exact q; exact absurd h109 (nI_ne0 (by omega) (by omega))); simp only [if_pos z8] at h9; rw [lIs_b (ρ := ρ) (nb := nb) (s' := s') hnw hj (by (try simp only [b2_e0, b2_n0, Decidable.not_not] at *) <;> (try simp only [i_lt, i_le, i_eq, not_and, not_or, ne_eq, il_0, il_1, il_2, il_3, il_4, il_5, il_6, il_7, il_8, il_9, il_10, il_14, il_15, il_19, il_20, il_24, il_30, il_31, il_44, il_48, il_49, il_52, il_57, il_59, il_60, il_70, il_99, il_100, il_103, il_108, il_114, il_m1, il_m2, il_m3, il_m4, il_m9, il_m10, il_m100] at *) <;> omega)] at h9; exact h9))
  have hS := hS0
  refine mC.of (L := [_, _, _, _, _, _, _, _, _]) okX8_lain 4 rfl rfl ?_
  refine x_aload_n (pc := 0) (i := 0) dX8_lain_0 rfl rfl ?_
  refine x_iconst (pc := 1) (v := 0) dX8_lain_1 (by decide) ?_
  refine x_putI (pc := 2) hS fX8_82 dX8_lain_2 rfl rfl rfl rfl (fun hS => ?_)
  refine x_iload_n (pc := 5) (i := 1) dX8_lain_5 rfl rfl ?_
  refine x_ss (pc := 6) (As := [_]) rfl lX8_101 dX8_lain_6 rfl (Nat.le_of_ble_eq_true rfl) c_X8_isSheet ?_
  rintro _ _ ⟨rfl, hq⟩
  obtain rfl := hq.symm
  refine x_pushI ?_
  refine x_if_ne (pc := 9) (tgt := 14) dX8_lain_9 (by decide) (fun h9 => ?_) (fun h9 => absurd h9 (by rw [b2_n0]; exact ⟨by (try simp only [b2_e0, b2_n0, Decidable.not_not] at *) <;> (try simp only [i_lt, i_le, i_eq, not_and, not_or, ne_eq, il_0, il_1, il_2, il_3, il_4, il_5, il_6, il_7, il_8, il_9, il_10, il_14, il_15, il_19, il_20, il_24, il_30, il_31, il_44, il_48, il_49, il_52, il_57, il_59, il_60, il_70, il_99, il_100, il_103, il_108, il_114, il_m1, il_m2, il_m3, il_m4, il_m9, il_m10, il_m100] at *) <;> omega, by (try simp only [b2_e0, b2_n0, Decidable.not_not] at *) <;> (try simp only [i_lt, i_le, i_eq, not_and, not_or, ne_eq, il_0, il_1, il_2, il_3, il_4, il_5, il_6, il_7, il_8, il_9, il_10, il_14, il_15, il_19, il_20, il_24, il_30, il_31, il_44, il_48, il_49, il_52, il_57, il_59, il_60, il_70, il_99, il_100, il_103, il_108, il_114, il_m1, il_m2, il_m3, il_m4, il_m9, il_m10, il_m100] at *) <;> omega⟩))
  refine x_iload_n (pc := 14) (i := 2) dX8_lain_14 rfl rfl ?_
  refine x_ss (pc := 15) (As := [_]) rfl lX8_105 dX8_lain_15 rfl (Nat.le_of_ble_eq_true rfl) c_X8_isSort ?_
  rintro _ _ ⟨rfl, hq⟩
  obtain rfl := hq.symm
  refine x_pushI ?_
  refine x_if_eq (pc := 18) (tgt := 31) dX8_lain_18 (by decide) (fun h18 => absurd h18 (by rw [b2_e0]; exact not_not_intro h.1.1)) (fun h18 => ?_)
  refine x_iload (pc := 21) dX8_lain_21 rfl ?_
  refine x_iconst (pc := 23) (v := (-1)) dX8_lain_23 (by decide) ?_
  refine x_iconst (pc := 24) (v := 4) dX8_lain_24 (by decide) ?_
  refine x_ss (pc := 25) (As := [_, _, _]) rfl lX8_88 dX8_lain_25 rfl (Nat.le_of_ble_eq_true rfl) c_X8_within ?_
  rintro _ _ ⟨rfl, hq⟩
  obtain rfl := hq.symm
  refine x_pushI ?_
  refine x_if_ne (pc := 28) (tgt := 34) dX8_lain_28 (by decide) (fun h28 => ?_) (fun h28 => absurd h28 (by rw [b2_n0]; exact h.1.2))
  refine x_aload_n (pc := 34) (i := 0) dX8_lain_34 rfl rfl ?_
  refine x_getI (pc := 35) hS fX8_92 dX8_lain_35 rfl rfl ?_
  rw [fld_setF_k (by decide)]
  refine x_if_ne (pc := 38) (tgt := 44) dX8_lain_38 (by decide) (fun h38 => ?_) (fun h38 => absurd h38 (by exact h.2))
  refine x_aload_n (pc := 44) (i := 0) dX8_lain_44 rfl rfl ?_
  refine x_iload_n (pc := 45) (i := 1) dX8_lain_45 rfl rfl ?_
  refine x_iload_n (pc := 46) (i := 2) dX8_lain_46 rfl rfl ?_
  refine x_iload_n (pc := 47) (i := 3) dX8_lain_47 rfl rfl ?_
  refine x_aload_n (pc := 48) (i := 0) dX8_lain_48 rfl rfl ?_
  refine x_getI (pc := 49) hS fX8_95 dX8_lain_49 rfl rfl ?_
  rw [fld_setF_k (by decide), ew]
  refine x_vs (pc := 52) (As := [_, _, _, _]) rfl hS lX8_108 dX8_lain_52 rfl rfl (Nat.le_of_ble_eq_true rfl) (c_X8_against hS hs) ?_
  rintro _ _ ⟨rfl, hq⟩
  obtain rfl := hq.symm
  refine x_pushI ?_
  rw [arr_setF, arr_setF, ha]
  refine x_istore (pc := 55) (L' := [_, _, _, _, _, _, _, _, _]) dX8_lain_55 (by decide) rfl ?_
  refine x_iload (pc := 57) dX8_lain_57 rfl ?_
  refine x_if_eq (pc := 59) (tgt := 69) dX8_lain_59 (by decide) (fun h59 => ?_) (fun h59 => absurd h59 (by decide))
  refine x_iconst (pc := 69) (v := 0) dX8_lain_69 (by decide) ?_
  refine x_istore (pc := 70) (L' := [_, _, _, _, _, _, _, _, _]) dX8_lain_70 (by decide) rfl ?_
  refine x_bipush (pc := 72) (v := (-9)) dX8_lain_72 (by decide) ?_
  refine x_istore (pc := 74) (L' := [_, _, _, _, _, _, _, _, _]) dX8_lain_74 (by decide) rfl ?_
  refine x_iconst (pc := 76) (v := 0) dX8_lain_76 (by decide) ?_
  refine x_istore (pc := 77) (L' := [_, _, _, _, _, _, _, _, _]) dX8_lain_77 (by decide) rfl ?_
  have h9 := lp ((nb + 1) ^ nw + 1) 0 (arr w 63) (-9) (by omega) (by omega) (lIs_0 rfl).symm
  rw [show setA (setF w 44 0 0) 63 (arr w 63) = setF w 44 0 0 from by rw [← arr_setF (w := w) (a := 44) (k := 0) (b := 63) 0, setA_self hSf rfl]] at h9
  exact h9

