-- odds: the class's call
theorem od_small : ∀ nb, nb ≤ 5 → ∀ nw, nw ≤ 5 → ∀ H, H ≤ 8 → wTl nb nw (nw + 1 - H) H ≤ 100000 ∧ 1 ≤ gcL 100 (wTl nb nw (nw + 1 - H) H) ((nb + 1) ^ nw) ∧ gcL 100 (wTl nb nw (nw + 1 - H) H) ((nb + 1) ^ nw) ≤ 100000 := by decide +kernel
theorem c_X7_odds_no {d : Nat} {w : mW} {b k : Int32} (hS : Shape w) (h : ¬ ((0 ≤ b ∧ b < fld w 7 0) ∧ 0 ≤ k ∧ k ≤ 1)) : mC (d + 1) kX7_odds [.ref 0, .int b, .int k] w (fun r w' => r = some (.long (-9223372036854775808)) ∧ w' = w) := by
  refine mC.of (L := [_, _, _, _, _, _, _, _, _]) okX7_odds 6 rfl rfl ?_
  refine x_aload_n (pc := 0) (i := 0) dX7_odds_0 rfl rfl ?_
  refine x_getR (pc := 1) hS fX7_28 dX7_odds_1 rfl rfl ?_
  refine x_iload_n (pc := 4) (i := 1) dX7_odds_4 rfl rfl ?_
  refine x_vs (pc := 5) (As := [_]) rfl hS lX7_100 dX7_odds_5 rfl rfl (Nat.le_of_ble_eq_true rfl) (c_X0_hasBarrow_7 hS) ?_
  rintro _ _ ⟨rfl, hq⟩
  obtain rfl := hq.symm
  refine x_pushI ?_
  refine x_if_eq (pc := 8) (tgt := 20) dX7_odds_8 (by decide) (fun h8 => ?_) (fun h8 => ?_)
  · refine x_ldc2 (pc := 20) dX7_odds_20 qX7_217 ?_
    refine x_rl (pc := 23) dX7_odds_23 rfl ?_
    exact ⟨rfl, rfl⟩
  · refine x_iload_n (pc := 11) (i := 2) dX7_odds_11 rfl rfl ?_
    refine x_if_lt (pc := 12) (tgt := 20) dX7_odds_12 (by decide) (fun h12 => ?_) (fun h12 => ?_)
    · refine x_ldc2 (pc := 20) dX7_odds_20 qX7_217 ?_
      refine x_rl (pc := 23) dX7_odds_23 rfl ?_
      exact ⟨rfl, rfl⟩
    · refine x_iload_n (pc := 15) (i := 2) dX7_odds_15 rfl rfl ?_
      refine x_iconst (pc := 16) (v := 1) dX7_odds_16 (by decide) ?_
      refine x_icmp_le (pc := 17) (tgt := 24) dX7_odds_17 (by decide) (fun h17 => ?_) (fun h17 => ?_)
      · exfalso; (try simp only [b2_e0, b2_n0, Decidable.not_not] at *) <;> (try simp only [i_lt, i_le, i_eq, not_and, not_or, ne_eq, il_0, il_1, il_2, il_3, il_4, il_5, il_6, il_7, il_8, il_9, il_10, il_14, il_15, il_19, il_20, il_24, il_30, il_31, il_44, il_48, il_49, il_52, il_57, il_59, il_60, il_70, il_99, il_100, il_103, il_108, il_114, il_m1, il_m2, il_m3, il_m4, il_m9, il_m10, il_m100] at *) <;> omega
      · refine x_ldc2 (pc := 20) dX7_odds_20 qX7_217 ?_
        refine x_rl (pc := 23) dX7_odds_23 rfl ?_
        exact ⟨rfl, rfl⟩
theorem c_X7_odds {d : Nat} {w : mW} {k : Int32} {b H nb nw : Nat} (hS : Shape w) (tb : (fld w 7 0).toInt = (nb : Int)) (hnb : nb ≤ 5) (tw : (fld w 7 1).toInt = (nw : Int)) (hnw : nw ≤ 5) (hb : b < nb) (hH : holdsE (arr w 8 b) (arr w 9 b) = nI H) (hH2 : H ≤ 8) (hk : 0 ≤ k ∧ k ≤ 1) : mC (d + 3) kX7_odds [.ref 0, .int (nI b), .int k] w (fun r w' => r = some (.long (if k = 0 then lN (wTl nb nw (nw + 1 - H) H / gcL 100 (wTl nb nw (nw + 1 - H) H) ((nb + 1) ^ nw)) else lN ((nb + 1) ^ nw / gcL 100 (wTl nb nw (nw + 1 - H) H) ((nb + 1) ^ nw)))) ∧ w' = w) := by
  have ew := nI_ofT tw (by omega)
  have eb := nI_ofT tb (by omega)
  have tbb : (nI b).toInt = (b : Int) := nI_toInt (by omega)
  obtain ⟨s1, s2, s3⟩ := od_small nb hnb nw hnw H hH2
  have s4 := pw_small (nb + 1) (by omega) nw hnw
  refine mC.of (L := [_, _, _, _, _, _, _, _, _]) okX7_odds 6 rfl rfl ?_
  refine x_aload_n (pc := 0) (i := 0) dX7_odds_0 rfl rfl ?_
  refine x_getR (pc := 1) hS fX7_28 dX7_odds_1 rfl rfl ?_
  refine x_iload_n (pc := 4) (i := 1) dX7_odds_4 rfl rfl ?_
  refine x_vs (pc := 5) (As := [_]) rfl hS lX7_100 dX7_odds_5 rfl rfl (Nat.le_of_ble_eq_true rfl) (c_X0_hasBarrow_7 hS) ?_
  rintro _ _ ⟨rfl, hq⟩
  obtain rfl := hq.symm
  refine x_pushI ?_
  refine x_if_eq (pc := 8) (tgt := 20) dX7_odds_8 (by decide) (fun h8 => absurd h8 (by rw [b2_e0]; exact not_not_intro ⟨by (try simp only [b2_e0, b2_n0, Decidable.not_not] at *) <;> (try simp only [i_lt, i_le, i_eq, not_and, not_or, ne_eq, il_0, il_1, il_2, il_3, il_4, il_5, il_6, il_7, il_8, il_9, il_10, il_14, il_15, il_19, il_20, il_24, il_30, il_31, il_44, il_48, il_49, il_52, il_57, il_59, il_60, il_70, il_99, il_100, il_103, il_108, il_114, il_m1, il_m2, il_m3, il_m4, il_m9, il_m10, il_m100] at *) <;> omega, by (try simp only [b2_e0, b2_n0, Decidable.not_not] at *) <;> (try simp only [i_lt, i_le, i_eq, not_and, not_or, ne_eq, il_0, il_1, il_2, il_3, il_4, il_5, il_6, il_7, il_8, il_9, il_10, il_14, il_15, il_19, il_20, il_24, il_30, il_31, il_44, il_48, il_49, il_52, il_57, il_59, il_60, il_70, il_99, il_100, il_103, il_108, il_114, il_m1, il_m2, il_m3, il_m4, il_m9, il_m10, il_m100] at *) <;> omega⟩)) (fun h8 => ?_)
  refine x_iload_n (pc := 11) (i := 2) dX7_odds_11 rfl rfl ?_
  refine x_if_lt (pc := 12) (tgt := 20) dX7_odds_12 (by decide) (fun h12 => absurd h12 (by (try simp only [b2_e0, b2_n0, Decidable.not_not] at *) <;> (try simp only [i_lt, i_le, i_eq, not_and, not_or, ne_eq, il_0, il_1, il_2, il_3, il_4, il_5, il_6, il_7, il_8, il_9, il_10, il_14, il_15, il_19, il_20, il_24, il_30, il_31, il_44, il_48, il_49, il_52, il_57, il_59, il_60, il_70, il_99, il_100, il_103, il_108, il_114, il_m1, il_m2, il_m3, il_m4, il_m9, il_m10, il_m100] at *) <;> omega)) (fun h12 => ?_)
  refine x_iload_n (pc := 15) (i := 2) dX7_odds_15 rfl rfl ?_
  refine x_iconst (pc := 16) (v := 1) dX7_odds_16 (by decide) ?_
  refine x_icmp_le (pc := 17) (tgt := 24) dX7_odds_17 (by decide) (fun h17 => ?_) (fun h17 => absurd h17 (by (try simp only [b2_e0, b2_n0, Decidable.not_not] at *) <;> (try simp only [i_lt, i_le, i_eq, not_and, not_or, ne_eq, il_0, il_1, il_2, il_3, il_4, il_5, il_6, il_7, il_8, il_9, il_10, il_14, il_15, il_19, il_20, il_24, il_30, il_31, il_44, il_48, il_49, il_52, il_57, il_59, il_60, il_70, il_99, il_100, il_103, il_108, il_114, il_m1, il_m2, il_m3, il_m4, il_m9, il_m10, il_m100] at *) <;> omega))
  refine x_aload_n (pc := 24) (i := 0) dX7_odds_24 rfl rfl ?_
  refine x_getR (pc := 25) hS fX7_28 dX7_odds_25 rfl rfl ?_
  refine x_iload_n (pc := 28) (i := 1) dX7_odds_28 rfl rfl ?_
  refine x_vs (pc := 29) (As := [_]) rfl hS lX7_219 dX7_odds_29 rfl rfl (Nat.le_of_ble_eq_true rfl) (c_X0_waysToFill hS tb hnb tw hnw hb hH hH2) ?_
  rintro _ _ ⟨rfl, hq⟩
  obtain rfl := hq.symm
  refine x_pushL ?_
  refine x_lstore_n (pc := 32) (i := 3) (L' := [_, _, _, _, _, _, _, _, _]) dX7_odds_32 rfl (by decide) rfl ?_
  refine x_aload_n (pc := 33) (i := 0) dX7_odds_33 rfl rfl ?_
  refine x_getR (pc := 34) hS fX7_28 dX7_odds_34 rfl rfl ?_
  refine x_getI (pc := 37) hS fX7_97 dX7_odds_37 rfl rfl ?_
  rw [eb]
  refine x_iconst (pc := 40) (v := 1) dX7_odds_40 (by decide) ?_
  refine x_iadd (pc := 41) dX7_odds_41 ?_
  rw [nI_1]
  refine x_i2l (pc := 42) dX7_odds_42 rfl ?_
  rw [nI_l (by omega)]
  refine x_aload_n (pc := 43) (i := 0) dX7_odds_43 rfl rfl ?_
  refine x_getR (pc := 44) hS fX7_28 dX7_odds_44 rfl rfl ?_
  refine x_getI (pc := 47) hS fX7_191 dX7_odds_47 rfl rfl ?_
  rw [ew]
  refine x_ss (pc := 50) (As := [_, _]) rfl lX7_223 dX7_odds_50 rfl (Nat.le_of_ble_eq_true rfl) (c_X7_power hnw) ?_
  rintro _ _ ⟨rfl, hq⟩
  obtain rfl := hq.symm
  refine x_pushL ?_
  refine x_lstore (pc := 53) (L' := [_, _, _, _, _, _, _, _, _]) dX7_odds_53 (by decide) rfl ?_
  refine x_lload_n (pc := 55) (i := 3) dX7_odds_55 rfl rfl ?_
  refine x_lload (pc := 56) dX7_odds_56 rfl ?_
  refine x_ss (pc := 58) (As := [_, _]) rfl lX7_227 dX7_odds_58 rfl (Nat.le_of_ble_eq_true rfl) (c_X7_commonPart (by omega) (by omega)) ?_
  rintro _ _ ⟨rfl, hq⟩
  obtain rfl := hq.symm
  refine x_pushL ?_
  refine x_lstore (pc := 61) (L' := [_, _, _, _, _, _, _, _, _]) dX7_odds_61 (by decide) rfl ?_
  refine x_lload (pc := 63) dX7_odds_63 rfl ?_
  refine x_lconst (pc := 65) (v := 1) dX7_odds_65 (by decide) ?_
  refine x_lcmp (pc := 66) dX7_odds_66 ?_
  refine x_if_ge (pc := 67) (tgt := 74) dX7_odds_67 (by decide) (fun h67 => ?_) (fun h67 => absurd h67 (by exact not_not_intro ((lg_cmp_ge _ _).mpr ((pk_lLE (a := 1) (by omega) (by omega)).mpr s2))))
  refine x_iload_n (pc := 74) (i := 2) dX7_odds_74 rfl rfl ?_
  refine x_if_ne (pc := 75) (tgt := 85) dX7_odds_75 (by decide) (fun h75 => ?_) (fun h75 => ?_)
  · refine x_lload (pc := 85) dX7_odds_85 rfl ?_
    refine x_lload (pc := 87) dX7_odds_87 rfl ?_
    refine x_ldiv (pc := 89) dX7_odds_89 (fun q => absurd ((pk_lEQ (a := gcL 100 (wTl nb nw (nw + 1 - H) H) ((nb + 1) ^ nw)) (b := 0) (by omega) (by omega)).mp q) (by omega)) ?_
    refine x_rl (pc := 90) dX7_odds_90 rfl ?_
    first | (rw [if_pos h75]; exact ⟨rfl, rfl⟩) | (rw [if_neg h75, pk_lDiv (by omega) (by omega) (by omega)]; exact ⟨rfl, rfl⟩)
  · refine x_lload_n (pc := 78) (i := 3) dX7_odds_78 rfl rfl ?_
    refine x_lload (pc := 79) dX7_odds_79 rfl ?_
    refine x_ldiv (pc := 81) dX7_odds_81 (fun q => absurd ((pk_lEQ (a := gcL 100 (wTl nb nw (nw + 1 - H) H) ((nb + 1) ^ nw)) (b := 0) (by omega) (by omega)).mp q) (by omega)) ?_
    rw [pk_lDiv (by omega) (by omega) (by omega)]
    refine x_goto (pc := 82) (tgt := 90) dX7_odds_82 (by decide) ?_
    refine x_rl (pc := 90) dX7_odds_90 rfl ?_
    first | (rw [if_pos h75]; exact ⟨rfl, rfl⟩) | (rw [if_neg h75, pk_lDiv (by omega) (by omega) (by omega)]; exact ⟨rfl, rfl⟩)
-- the reference: rows
theorem c_X8_rowsOf {d : Nat} {w : mW} {nb nw : Nat} (hS : Shape w) (tb : (fld w 44 5).toInt = (nb : Int)) (hnb : nb ≤ 5) (tw : (fld w 44 6).toInt = (nw : Int)) (hnw : nw ≤ 5) : mC d kX8_rowsOf [.ref 44] w (fun r w' => r = some (.int (nI ((nb + 1) ^ nw))) ∧ w' = w) := by
  have ew := nI_ofT tw (by omega)
  have eb := nI_ofT tb (by omega)
  have twn : (nI nw).toInt = (nw : Int) := nI_toInt (by omega)
  have lp : ∀ (m k : Nat), k ≤ nw → nw < k + m → mJ mX0 d kX8_rowsOf (fun r w' => r = some (.int (nI ((nb + 1) ^ nw))) ∧ w' = w) 4 [.ref 44, .int (nI ((nb + 1) ^ k)), .int (nI k)] [] w := by
    intro m
    induction m with
    | zero => intro k h1 h2; omega
    | succ m ih =>
      intro k hk1 hk2
      have tk : (nI k).toInt = (k : Int) := nI_toInt (by omega)
      refine x_iload_n (pc := 4) (i := 2) dX8_rowsOf_4 rfl rfl ?_
      refine x_aload_n (pc := 5) (i := 0) dX8_rowsOf_5 rfl rfl ?_
      refine x_getI (pc := 6) hS fX8_95 dX8_rowsOf_6 rfl rfl ?_
      rw [ew]
      refine x_icmp_ge (pc := 9) (tgt := 27) dX8_rowsOf_9 (by decide) (fun h9 => ?_) (fun h9 => ?_)
      · refine x_iload_n (pc := 27) (i := 1) dX8_rowsOf_27 rfl rfl ?_
        refine x_ri (pc := 28) dX8_rowsOf_28 rfl rfl ?_
        exact ⟨by rw [show k = nw by (try simp only [b2_e0, b2_n0, Decidable.not_not] at *) <;> (try simp only [i_lt, i_le, i_eq, not_and, not_or, ne_eq, il_0, il_1, il_2, il_3, il_4, il_5, il_6, il_7, il_8, il_9, il_10, il_14, il_15, il_19, il_20, il_24, il_30, il_31, il_44, il_48, il_49, il_52, il_57, il_59, il_60, il_70, il_99, il_100, il_103, il_108, il_114, il_m1, il_m2, il_m3, il_m4, il_m9, il_m10, il_m100] at *) <;> omega], rfl⟩
      · refine x_iload_n (pc := 12) (i := 1) dX8_rowsOf_12 rfl rfl ?_
        refine x_aload_n (pc := 13) (i := 0) dX8_rowsOf_13 rfl rfl ?_
        refine x_getI (pc := 14) hS fX8_92 dX8_rowsOf_14 rfl rfl ?_
        rw [eb]
        refine x_iconst (pc := 17) (v := 1) dX8_rowsOf_17 (by decide) ?_
        refine x_iadd (pc := 18) dX8_rowsOf_18 ?_
        rw [nI_1]
        refine x_imul (pc := 19) dX8_rowsOf_19 ?_
        rw [pk_mul, ← Nat.pow_succ]
        refine x_istore_n (pc := 20) (i := 1) (L' := [_, _, _]) dX8_rowsOf_20 rfl (by decide) rfl ?_
        refine x_iinc (pc := 21) (L' := [_, _, _]) dX8_rowsOf_21 (by decide) rfl (by first | exact nI_inc _ | rfl) rfl ?_
        refine x_goto (pc := 24) (tgt := 4) dX8_rowsOf_24 (by decide) ?_
        exact ih (k + 1) (by (try simp only [b2_e0, b2_n0, Decidable.not_not] at *) <;> (try simp only [i_lt, i_le, i_eq, not_and, not_or, ne_eq, il_0, il_1, il_2, il_3, il_4, il_5, il_6, il_7, il_8, il_9, il_10, il_14, il_15, il_19, il_20, il_24, il_30, il_31, il_44, il_48, il_49, il_52, il_57, il_59, il_60, il_70, il_99, il_100, il_103, il_108, il_114, il_m1, il_m2, il_m3, il_m4, il_m9, il_m10, il_m100] at *) <;> omega) (by omega)
  refine mC.of (L := [_, _, _]) okX8_rowsOf 2 rfl rfl ?_
  refine x_iconst (pc := 0) (v := 1) dX8_rowsOf_0 (by decide) ?_
  refine x_istore_n (pc := 1) (i := 1) (L' := [_, _, _]) dX8_rowsOf_1 rfl (by decide) rfl ?_
  refine x_iconst (pc := 2) (v := 0) dX8_rowsOf_2 (by decide) ?_
  refine x_istore_n (pc := 3) (i := 2) (L' := [_, _, _]) dX8_rowsOf_3 rfl (by decide) rfl ?_
  exact lp (nw + 1) 0 (by omega) (by omega)
def dig (B nw N j : Nat) : Nat := N / B ^ (nw - 1 - j) % B
def rowF (B nw N t : Nat) (old : Nat → Int32) : Nat → Int32 := fun j => if t ≤ j ∧ j < nw then nI (dig B nw N j) else old j
theorem rowF_s {B nw N t : Nat} {old : Nat → Int32} (ht : t < nw) : upd (rowF B nw N (t + 1) old) t (nI (N / B ^ (nw - (t + 1)) % B)) = rowF B nw N t old := by
  funext j
  unfold upd rowF
  by_cases h : j = t
  · subst h
    rw [if_pos rfl, if_pos (by omega)]
    unfold dig
    rw [show nw - 1 - j = nw - (j + 1) by omega]
  · rw [if_neg h]
    by_cases h2 : t + 1 ≤ j ∧ j < nw
    · rw [if_pos h2, if_pos (by omega)]
    · rw [if_neg h2, if_neg (by omega)]
theorem rowF_n {B nw N : Nat} {old : Nat → Int32} : rowF B nw N nw old = old := by
  funext j; unfold rowF; rw [if_neg (by omega)]
theorem c_X8_rowOf {d : Nat} {w : mW} {nb nw N : Nat} (hS0 : Shape w) (tb : (fld w 44 5).toInt = (nb : Int)) (hnb : nb ≤ 5) (tw : (fld w 44 6).toInt = (nw : Int)) (hnw : nw ≤ 5) (hN : N < 2 ^ 30) : mC d kX8_rowOf [.ref 44, .int (nI N)] w (fun r w' => r = none ∧ w' = setA w 63 (rowF (nb + 1) nw N 0 (arr w 63))) := by
  have ew := nI_ofT tw (by omega)
  have eb := nI_ofT tb (by omega)
  have lp : ∀ t, t ≤ nw → mJ mX0 d kX8_rowOf (fun r w' => r = none ∧ w' = setA w 63 (rowF (nb + 1) nw N 0 (arr w 63))) 9 [.ref 44, .int (nI N), .int (nI (N / (nb + 1) ^ (nw - t))), .int (nI t - 1)] [] (setA w 63 (rowF (nb + 1) nw N t (arr w 63))) := by
    intro t
    induction t with
    | zero =>
      intro ht
      rw [i_m1]
      refine x_iload_n (pc := 9) (i := 3) dX8_rowOf_9 rfl rfl ?_
      refine x_if_lt (pc := 10) (tgt := 42) dX8_rowOf_10 (by decide) (fun h10 => ?_) (fun h10 => absurd h10 (by decide))
      refine x_rv (pc := 42) dX8_rowOf_42 rfl ?_
      exact ⟨rfl, rfl⟩
    | succ t ih =>
      intro ht
      rw [nI_pred]
      have hS := hS0.stA 63 (rowF (nb + 1) nw N (t + 1) (arr w 63))
      have tk : (nI t).toInt = (t : Int) := nI_toInt (by omega)
      have hdl : N / (nb + 1) ^ (nw - (t + 1)) ≤ N := Nat.div_le_self _ _
      have hml : N / (nb + 1) ^ (nw - (t + 1)) % (nb + 1) < nb + 1 := Nat.mod_lt _ (by omega)
      refine x_iload_n (pc := 9) (i := 3) dX8_rowOf_9 rfl rfl ?_
      refine x_if_lt (pc := 10) (tgt := 42) dX8_rowOf_10 (by decide) (fun h10 => absurd h10 (by (try simp only [b2_e0, b2_n0, Decidable.not_not] at *) <;> (try simp only [i_lt, i_le, i_eq, not_and, not_or, ne_eq, il_0, il_1, il_2, il_3, il_4, il_5, il_6, il_7, il_8, il_9, il_10, il_14, il_15, il_19, il_20, il_24, il_30, il_31, il_44, il_48, il_49, il_52, il_57, il_59, il_60, il_70, il_99, il_100, il_103, il_108, il_114, il_m1, il_m2, il_m3, il_m4, il_m9, il_m10, il_m100] at *) <;> omega)) (fun h10 => ?_)
      refine x_aload_n (pc := 13) (i := 0) dX8_rowOf_13 rfl rfl ?_
      refine x_getR (pc := 14) hS fX8_64 dX8_rowOf_14 rfl rfl ?_
      refine x_iload_n (pc := 17) (i := 3) dX8_rowOf_17 rfl rfl ?_
      refine x_iload_n (pc := 18) (i := 2) dX8_rowOf_18 rfl rfl ?_
      refine x_aload_n (pc := 19) (i := 0) dX8_rowOf_19 rfl rfl ?_
      refine x_getI (pc := 20) hS fX8_92 dX8_rowOf_20 rfl rfl ?_
      rw [fld_setA, eb]
      refine x_iconst (pc := 23) (v := 1) dX8_rowOf_23 (by decide) ?_
      refine x_iadd (pc := 24) dX8_rowOf_24 ?_
      rw [nI_1]
      refine x_irem (pc := 25) dX8_rowOf_25 (nI_ne0 (by omega) (by omega)) ?_
      rw [pk_rem (by omega) (by omega) (by omega)]
      refine x_astN (pc := 26) hS dX8_rowOf_26 rfl (by omega) (by decide) (fun hS => ?_)
      rw [arr_setA hS0 rfl, setA_setA, rowF_s (by omega)]
      have hS := hS0.stA 63 (rowF (nb + 1) nw N t (arr w 63))
      refine x_iload_n (pc := 27) (i := 2) dX8_rowOf_27 rfl rfl ?_
      refine x_aload_n (pc := 28) (i := 0) dX8_rowOf_28 rfl rfl ?_
      refine x_getI (pc := 29) hS fX8_92 dX8_rowOf_29 rfl rfl ?_
      rw [fld_setA, eb]
      refine x_iconst (pc := 32) (v := 1) dX8_rowOf_32 (by decide) ?_
      refine x_iadd (pc := 33) dX8_rowOf_33 ?_
      rw [nI_1]
      refine x_idiv (pc := 34) dX8_rowOf_34 (nI_ne0 (by omega) (by omega)) ?_
      rw [pk_div (by omega) (by omega) (by omega), Nat.div_div_eq_div_mul, ← Nat.pow_succ, show (nw - (t + 1)).succ = nw - t by omega]
      refine x_istore_n (pc := 35) (i := 2) (L' := [_, _, _, _]) dX8_rowOf_35 rfl (by decide) rfl ?_
      refine x_iinc (pc := 36) (L' := [_, _, _, _]) dX8_rowOf_36 (by decide) rfl (i_decS _) rfl ?_
      refine x_goto (pc := 39) (tgt := 9) dX8_rowOf_39 (by decide) ?_
      exact ih (by omega)
  have h9 := lp nw (by omega)
  rw [Nat.sub_self, Nat.pow_zero, Nat.div_one, rowF_n, setA_self hS0 rfl] at h9
  have hS := hS0
  refine mC.of (L := [_, _, _, _]) okX8_rowOf 2 rfl rfl ?_
  refine x_iload_n (pc := 0) (i := 1) dX8_rowOf_0 rfl rfl ?_
  refine x_istore_n (pc := 1) (i := 2) (L' := [_, _, _, _]) dX8_rowOf_1 rfl (by decide) rfl ?_
  refine x_aload_n (pc := 2) (i := 0) dX8_rowOf_2 rfl rfl ?_
  refine x_getI (pc := 3) hS fX8_95 dX8_rowOf_3 rfl rfl ?_
  rw [ew]
  refine x_iconst (pc := 6) (v := 1) dX8_rowOf_6 (by decide) ?_
  refine x_isub (pc := 7) dX8_rowOf_7 ?_
  refine x_istore_n (pc := 8) (i := 3) (L' := [_, _, _, _]) dX8_rowOf_8 rfl (by decide) rfl ?_
  exact h9

