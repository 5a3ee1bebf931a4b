-- odds: the class
theorem pw_small : ∀ b, b ≤ 6 → ∀ t, t ≤ 5 → b ^ t ≤ 7776 := by decide +kernel
theorem c_X7_power {d : Nat} {w : mW} {b t : Nat} (ht : t ≤ 5) : mC d kX7_power [.long (lN b), .int (nI t)] w (fun r w' => r = some (.long (lN (b ^ t))) ∧ w' = w) := by
  have tt : (nI t).toInt = (t : Int) := nI_toInt (by omega)
  have lp : ∀ (m k : Nat), k ≤ t → t < k + m → mJ mX0 d kX7_power (fun r w' => r = some (.long (lN (b ^ t))) ∧ w' = w) 5 [.long (lN b), .null, .int (nI t), .long (lN (b ^ k)), .null, .int (nI k)] [] w := by
    intro m
    induction m with
    | zero => intro k h1 h2; omega
    | succ m ih =>
      intro k hk1 hk2
      have tk : (nI k).toInt = (k : Int) := nI_toInt (by omega)
      refine x_iload (pc := 5) dX7_power_5 rfl ?_
      refine x_iload_n (pc := 7) (i := 2) dX7_power_7 rfl rfl ?_
      refine x_icmp_ge (pc := 8) (tgt := 21) dX7_power_8 (by decide) (fun h8 => ?_) (fun h8 => ?_)
      · refine x_lload_n (pc := 21) (i := 3) dX7_power_21 rfl rfl ?_
        refine x_rl (pc := 22) dX7_power_22 rfl ?_
        exact ⟨by rw [show k = t by (try simp only [b2_e0, b2_n0, Decidable.not_not] at *) <;> (try simp only [i_lt, i_le, i_eq, not_and, not_or, ne_eq, il_0, il_1, il_2, il_3, il_4, il_5, il_6, il_7, il_8, il_9, il_10, il_14, il_15, il_19, il_20, il_24, il_30, il_31, il_44, il_48, il_49, il_52, il_57, il_59, il_60, il_70, il_99, il_100, il_103, il_108, il_114, il_m1, il_m2, il_m3, il_m4, il_m9, il_m10, il_m100] at *) <;> omega], rfl⟩
      · refine x_lload_n (pc := 11) (i := 3) dX7_power_11 rfl rfl ?_
        refine x_lload_n (pc := 12) (i := 0) dX7_power_12 rfl rfl ?_
        refine x_lmul (pc := 13) dX7_power_13 ?_
        rw [lN_mul, ← Nat.pow_succ]
        refine x_lstore_n (pc := 14) (i := 3) (L' := [_, _, _, _, _, _]) dX7_power_14 rfl (by decide) rfl ?_
        refine x_iinc (pc := 15) (L' := [_, _, _, _, _, _]) dX7_power_15 (by decide) rfl (by first | exact nI_inc _ | rfl) rfl ?_
        refine x_goto (pc := 18) (tgt := 5) dX7_power_18 (by decide) ?_
        exact ih (k + 1) (by (try simp only [b2_e0, b2_n0, Decidable.not_not] at *) <;> (try simp only [i_lt, i_le, i_eq, not_and, not_or, ne_eq, il_0, il_1, il_2, il_3, il_4, il_5, il_6, il_7, il_8, il_9, il_10, il_14, il_15, il_19, il_20, il_24, il_30, il_31, il_44, il_48, il_49, il_52, il_57, il_59, il_60, il_70, il_99, il_100, il_103, il_108, il_114, il_m1, il_m2, il_m3, il_m4, il_m9, il_m10, il_m100] at *) <;> omega) (by omega)
  refine mC.of (L := [_, _, _, _, _, _]) okX7_power 3 rfl rfl ?_
  refine x_lconst (pc := 0) (v := 1) dX7_power_0 (by decide) ?_
  refine x_lstore_n (pc := 1) (i := 3) (L' := [_, _, _, _, _, _]) dX7_power_1 rfl (by decide) rfl ?_
  refine x_iconst (pc := 2) (v := 0) dX7_power_2 (by decide) ?_
  refine x_istore (pc := 3) (L' := [_, _, _, _, _, _]) dX7_power_3 (by decide) rfl ?_
  exact lp (t + 1) 0 (by omega) (by omega)
def chL (n k : Nat) : Nat → Nat
  | 0 => 1
  | t + 1 => chL n k t * (n - k + (t + 1)) / (t + 1)
theorem chL_small : ∀ n, n ≤ 5 → ∀ k, k ≤ 5 → ∀ t, t ≤ 5 → chL n k t * (n - k + (t + 1)) ≤ 100000 := by decide +kernel
theorem c_X7_choices {d : Nat} {w : mW} {n k : Nat} (hn : n ≤ 5) (hkn : k ≤ n) : mC d kX7_choices [.int (nI n), .int (nI k)] w (fun r w' => r = some (.long (lN (chL n k k))) ∧ w' = w) := by
  have tt : (nI k).toInt = (k : Int) := nI_toInt (by omega)
  have lp : ∀ (m t : Nat), t ≤ k → k < t + m → mJ mX0 d kX7_choices (fun r w' => r = some (.long (lN (chL n k k))) ∧ w' = w) 5 [.int (nI n), .int (nI k), .long (lN (chL n k t)), .null, .int (nI (t + 1))] [] w := by
    intro m
    induction m with
    | zero => intro t h1 h2; omega
    | succ m ih =>
      intro t ht1 ht2
      have tk : (nI (t + 1)).toInt = ((t + 1 : Nat) : Int) := nI_toInt (by omega)
      refine x_iload (pc := 5) dX7_choices_5 rfl ?_
      refine x_iload_n (pc := 7) (i := 1) dX7_choices_7 rfl rfl ?_
      refine x_icmp_gt (pc := 8) (tgt := 31) dX7_choices_8 (by decide) (fun h8 => ?_) (fun h8 => ?_)
      · refine x_lload_n (pc := 31) (i := 2) dX7_choices_31 rfl rfl ?_
        refine x_rl (pc := 32) dX7_choices_32 rfl ?_
        exact ⟨by rw [show t = k by (try simp only [b2_e0, b2_n0, Decidable.not_not] at *) <;> (try simp only [i_lt, i_le, i_eq, not_and, not_or, ne_eq, il_0, il_1, il_2, il_3, il_4, il_5, il_6, il_7, il_8, il_9, il_10, il_14, il_15, il_19, il_20, il_24, il_30, il_31, il_44, il_48, il_49, il_52, il_57, il_59, il_60, il_70, il_99, il_100, il_103, il_108, il_114, il_m1, il_m2, il_m3, il_m4, il_m9, il_m10, il_m100] at *) <;> omega], rfl⟩
      · have htk : t < k := by (try simp only [b2_e0, b2_n0, Decidable.not_not] at *) <;> (try simp only [i_lt, i_le, i_eq, not_and, not_or, ne_eq, il_0, il_1, il_2, il_3, il_4, il_5, il_6, il_7, il_8, il_9, il_10, il_14, il_15, il_19, il_20, il_24, il_30, il_31, il_44, il_48, il_49, il_52, il_57, il_59, il_60, il_70, il_99, il_100, il_103, il_108, il_114, il_m1, il_m2, il_m3, il_m4, il_m9, il_m10, il_m100] at *) <;> omega
        refine x_lload_n (pc := 11) (i := 2) dX7_choices_11 rfl rfl ?_
        refine x_iload_n (pc := 12) (i := 0) dX7_choices_12 rfl rfl ?_
        refine x_iload_n (pc := 13) (i := 1) dX7_choices_13 rfl rfl ?_
        refine x_isub (pc := 14) dX7_choices_14 ?_
        rw [pk_sub hkn]
        refine x_iload (pc := 15) dX7_choices_15 rfl ?_
        refine x_iadd (pc := 17) dX7_choices_17 ?_
        rw [nI_add]
        refine x_i2l (pc := 18) dX7_choices_18 rfl ?_
        rw [nI_l (by omega)]
        refine x_lmul (pc := 19) dX7_choices_19 ?_
        rw [lN_mul]
        refine x_iload (pc := 20) dX7_choices_20 rfl ?_
        refine x_i2l (pc := 22) dX7_choices_22 rfl ?_
        rw [nI_l (by omega)]
        refine x_ldiv (pc := 23) dX7_choices_23 (fun q => absurd ((pk_lEQ (a := t + 1) (b := 0) (by omega) (by omega)).mp q) (by omega)) ?_
        rw [pk_lDiv (by have := chL_small n hn k (by omega) t (by omega); omega) (by omega) (by omega)]
        refine x_lstore_n (pc := 24) (i := 2) (L' := [_, _, _, _, _]) dX7_choices_24 rfl (by decide) rfl ?_
        refine x_iinc (pc := 25) (L' := [_, _, _, _, _]) dX7_choices_25 (by decide) rfl (by first | exact nI_inc _ | rfl) rfl ?_
        refine x_goto (pc := 28) (tgt := 5) dX7_choices_28 (by decide) ?_
        exact ih (t + 1) (by omega) (by omega)
  refine mC.of (L := [_, _, _, _, _]) okX7_choices 3 rfl rfl ?_
  refine x_lconst (pc := 0) (v := 1) dX7_choices_0 (by decide) ?_
  refine x_lstore_n (pc := 1) (i := 2) (L' := [_, _, _, _, _]) dX7_choices_1 rfl (by decide) rfl ?_
  refine x_iconst (pc := 2) (v := 1) dX7_choices_2 (by decide) ?_
  refine x_istore (pc := 3) (L' := [_, _, _, _, _]) dX7_choices_3 (by decide) rfl ?_
  exact lp (k + 1) 0 (by omega) (by omega)
def wTm (nb nw i : Nat) : Nat := chL nw i i * nb ^ (nw - i)
def wTl (nb nw : Nat) : Nat → Nat → Nat
  | 0, _ => 0
  | m + 1, i => wTm nb nw i + wTl nb nw m (i + 1)
theorem wTl_s (nb nw m i : Nat) : wTl nb nw (m + 1) i = wTm nb nw i + wTl nb nw m (i + 1) := rfl
theorem c_X0_waysToFill {d : Nat} {w : mW} {b H nb nw : Nat} (hS : Shape w) (tb : (fld w 7 0).toInt = (nb : Int)) (hnb : nb ≤ 5) (tw : (fld w 7 1).toInt = (nw : Int)) (hnw : nw ≤ 5) (hb : b < nb) (hH : holdsE (arr w 8 b) (arr w 9 b) = nI H) (hH2 : H ≤ 8) : mC (d + 2) kX0_waysToFill [.ref 7, .int (nI b)] w (fun r w' => r = some (.long (lN (wTl nb nw (nw + 1 - H) H))) ∧ w' = w) := by
  have ew := nI_ofT tw (by omega)
  have eb := nI_ofT tb (by omega)
  have twn : (nI nw).toInt = (nw : Int) := nI_toInt (by omega)
  have tbb : (nI b).toInt = (b : Int) := nI_toInt (by omega)
  have lp : ∀ (m i s : Nat), 10 < i + m → wTl nb nw (nw + 1 - H) H = s + wTl nb nw (nw + 1 - i) i → i ≤ 9 → mJ mX0 (d + 2) kX0_waysToFill (fun r w' => r = some (.long (lN (wTl nb nw (nw + 1 - H) H))) ∧ w' = w) 9 [.ref 7, .int (nI b), .long (lN s), .null, .int (nI i)] [] w := by
    intro m
    induction m with
    | zero => intro i s h1 hs hi; exact absurd hi (by omega)
    | succ m ih =>
      intro i s hi2 hs hi9
      have ti : (nI i).toInt = (i : Int) := nI_toInt (by omega)
      refine x_iload (pc := 9) dX0_waysToFill_9 rfl ?_
      refine x_aload_n (pc := 11) (i := 0) dX0_waysToFill_11 rfl rfl ?_
      refine x_getI (pc := 12) hS fX0_43 dX0_waysToFill_12 rfl rfl ?_
      rw [ew]
      refine x_icmp_gt (pc := 15) (tgt := 52) dX0_waysToFill_15 (by decide) (fun h15 => ?_) (fun h15 => ?_)
      · refine x_lload_n (pc := 52) (i := 2) dX0_waysToFill_52 rfl rfl ?_
        refine x_rl (pc := 53) dX0_waysToFill_53 rfl ?_
        exact ⟨by rw [hs, show nw + 1 - i = 0 by (try simp only [b2_e0, b2_n0, Decidable.not_not] at *) <;> (try simp only [i_lt, i_le, i_eq, not_and, not_or, ne_eq, il_0, il_1, il_2, il_3, il_4, il_5, il_6, il_7, il_8, il_9, il_10, il_14, il_15, il_19, il_20, il_24, il_30, il_31, il_44, il_48, il_49, il_52, il_57, il_59, il_60, il_70, il_99, il_100, il_103, il_108, il_114, il_m1, il_m2, il_m3, il_m4, il_m9, il_m10, il_m100] at *) <;> omega]; rfl, rfl⟩
      · have hin : i ≤ nw := by (try simp only [b2_e0, b2_n0, Decidable.not_not] at *) <;> (try simp only [i_lt, i_le, i_eq, not_and, not_or, ne_eq, il_0, il_1, il_2, il_3, il_4, il_5, il_6, il_7, il_8, il_9, il_10, il_14, il_15, il_19, il_20, il_24, il_30, il_31, il_44, il_48, il_49, il_52, il_57, il_59, il_60, il_70, il_99, il_100, il_103, il_108, il_114, il_m1, il_m2, il_m3, il_m4, il_m9, il_m10, il_m100] at *) <;> omega
        refine x_lload_n (pc := 18) (i := 2) dX0_waysToFill_18 rfl rfl ?_
        refine x_aload_n (pc := 19) (i := 0) dX0_waysToFill_19 rfl rfl ?_
        refine x_getI (pc := 20) hS fX0_43 dX0_waysToFill_20 rfl rfl ?_
        refine x_iload (pc := 23) dX0_waysToFill_23 rfl ?_
        rw [ew]
        refine x_ss (pc := 25) (As := [_, _]) rfl lX0_89 dX0_waysToFill_25 rfl (Nat.le_of_ble_eq_true rfl) (c_X7_choices hnw hin) ?_
        rintro _ _ ⟨rfl, hq⟩
        obtain rfl := hq.symm
        refine x_pushL ?_
        refine x_aload_n (pc := 28) (i := 0) dX0_waysToFill_28 rfl rfl ?_
        refine x_getI (pc := 29) hS fX0_39 dX0_waysToFill_29 rfl rfl ?_
        rw [eb]
        refine x_i2l (pc := 32) dX0_waysToFill_32 rfl ?_
        rw [nI_l (by omega)]
        refine x_aload_n (pc := 33) (i := 0) dX0_waysToFill_33 rfl rfl ?_
        refine x_getI (pc := 34) hS fX0_43 dX0_waysToFill_34 rfl rfl ?_
        rw [ew]
        refine x_iload (pc := 37) dX0_waysToFill_37 rfl ?_
        refine x_isub (pc := 39) dX0_waysToFill_39 ?_
        rw [pk_sub hin]
        refine x_ss (pc := 40) (As := [_, _]) rfl lX0_93 dX0_waysToFill_40 rfl (Nat.le_of_ble_eq_true rfl) (c_X7_power (by omega)) ?_
        rintro _ _ ⟨rfl, hq⟩
        obtain rfl := hq.symm
        refine x_pushL ?_
        refine x_lmul (pc := 43) dX0_waysToFill_43 ?_
        rw [lN_mul]
        refine x_ladd (pc := 44) dX0_waysToFill_44 ?_
        rw [lN_add]
        refine x_lstore_n (pc := 45) (i := 2) (L' := [_, _, _, _, _]) dX0_waysToFill_45 rfl (by decide) rfl ?_
        refine x_iinc (pc := 46) (L' := [_, _, _, _, _]) dX0_waysToFill_46 (by decide) rfl (by first | exact nI_inc _ | rfl) rfl ?_
        refine x_goto (pc := 49) (tgt := 9) dX0_waysToFill_49 (by decide) ?_
        exact ih (i + 1) (s + wTm nb nw i) (by omega) (by rw [hs, show nw + 1 - i = (nw + 1 - (i + 1)) + 1 by omega]; rw [wTl_s]; omega) (by omega)
  refine mC.of (L := [_, _, _, _, _]) okX0_waysToFill 3 rfl rfl ?_
  refine x_lconst (pc := 0) (v := 0) dX0_waysToFill_0 (by decide) ?_
  refine x_lstore_n (pc := 1) (i := 2) (L' := [_, _, _, _, _]) dX0_waysToFill_1 rfl (by decide) rfl ?_
  refine x_aload_n (pc := 2) (i := 0) dX0_waysToFill_2 rfl rfl ?_
  refine x_iload_n (pc := 3) (i := 1) dX0_waysToFill_3 rfl rfl ?_
  refine x_vs (pc := 4) (As := [_]) rfl hS lX0_77 dX0_waysToFill_4 rfl rfl (Nat.le_of_ble_eq_true rfl) (c_X0_holdsOf_7 hS tb hnb) ?_
  rintro _ _ ⟨rfl, hq⟩
  obtain rfl := hq.symm
  refine x_pushI ?_
  rw [if_pos (c := 0 ≤ nI b ∧ nI b < fld w 7 0) ⟨by (try simp only [b2_e0, b2_n0, Decidable.not_not] at *) <;> (try simp only [i_lt, i_le, i_eq, not_and, not_or, ne_eq, il_0, il_1, il_2, il_3, il_4, il_5, il_6, il_7, il_8, il_9, il_10, il_14, il_15, il_19, il_20, il_24, il_30, il_31, il_44, il_48, il_49, il_52, il_57, il_59, il_60, il_70, il_99, il_100, il_103, il_108, il_114, il_m1, il_m2, il_m3, il_m4, il_m9, il_m10, il_m100] at *) <;> omega, by (try simp only [b2_e0, b2_n0, Decidable.not_not] at *) <;> (try simp only [i_lt, i_le, i_eq, not_and, not_or, ne_eq, il_0, il_1, il_2, il_3, il_4, il_5, il_6, il_7, il_8, il_9, il_10, il_14, il_15, il_19, il_20, il_24, il_30, il_31, il_44, il_48, il_49, il_52, il_57, il_59, il_60, il_70, il_99, il_100, il_103, il_108, il_114, il_m1, il_m2, il_m3, il_m4, il_m9, il_m10, il_m100] at *) <;> omega⟩, nI_clamp (by omega), hH]
  refine x_istore (pc := 7) (L' := [_, _, _, _, _]) dX0_waysToFill_7 (by decide) rfl ?_
  exact lp 20 H 0 (by omega) (by omega) (by omega)
def gcL : Nat → Nat → Nat → Nat
  | 0, a, _ => a
  | s + 1, a, b => if b = 0 then a else gcL s b (a % b)
theorem c_X7_commonPart {d : Nat} {w : mW} {a0 b0 : Nat} (ha0 : a0 < 2 ^ 62) (hb0 : b0 < 2 ^ 62) : mC d kX7_commonPart [.long (lN a0), .long (lN b0)] w (fun r w' => r = some (.long (lN (gcL 100 a0 b0))) ∧ w' = w) := by
  have lp : ∀ (s a b : Nat), s ≤ 100 → a < 2 ^ 62 → b < 2 ^ 62 → gcL 100 a0 b0 = gcL s a b → mJ mX0 d kX7_commonPart (fun r w' => r = some (.long (lN (gcL 100 a0 b0))) ∧ w' = w) 9 [.long (lN a0), .null, .long (lN b0), .null, .long (lN a), .null, .long (lN b), .null, .int (nI (100 - s)), .null, .null] [] w := by
    intro s
    induction s with
    | zero =>
      intro a b hs ha hb he
      refine x_iload (pc := 9) dX7_commonPart_9 rfl ?_
      refine x_bipush (pc := 11) (v := 100) dX7_commonPart_11 (by decide) ?_
      refine x_icmp_ge (pc := 13) (tgt := 44) dX7_commonPart_13 (by decide) (fun h13 => ?_) (fun h13 => absurd h13 (by decide))
      refine x_lload (pc := 44) dX7_commonPart_44 rfl ?_
      refine x_rl (pc := 46) dX7_commonPart_46 rfl ?_
      exact ⟨by rw [he]; rfl, rfl⟩
    | succ s ih =>
      intro a b hs ha hb he
      have tk : (nI (100 - (s + 1))).toInt = ((100 - (s + 1) : Nat) : Int) := nI_toInt (by omega)
      have e1 : 100 - (s + 1) + 1 = 100 - s := by omega
      refine x_iload (pc := 9) dX7_commonPart_9 rfl ?_
      refine x_bipush (pc := 11) (v := 100) dX7_commonPart_11 (by decide) ?_
      refine x_icmp_ge (pc := 13) (tgt := 44) dX7_commonPart_13 (by decide) (fun h13 => absurd h13 (by (try simp only [b2_e0, b2_n0, Decidable.not_not] at *) <;> (try simp only [i_lt, i_le, i_eq, not_and, not_or, ne_eq, il_0, il_1, il_2, il_3, il_4, il_5, il_6, il_7, il_8, il_9, il_10, il_14, il_15, il_19, il_20, il_24, il_30, il_31, il_44, il_48, il_49, il_52, il_57, il_59, il_60, il_70, il_99, il_100, il_103, il_108, il_114, il_m1, il_m2, il_m3, il_m4, il_m9, il_m10, il_m100] at *) <;> omega)) (fun h13 => ?_)
      refine x_lload (pc := 16) dX7_commonPart_16 rfl ?_
      refine x_lconst (pc := 18) (v := 0) dX7_commonPart_18 (by decide) ?_
      refine x_lcmp (pc := 19) dX7_commonPart_19 ?_
      refine x_if_eq (pc := 20) (tgt := 44) dX7_commonPart_20 (by decide) (fun h20 => ?_) (fun h20 => ?_)
      · refine x_lload (pc := 44) dX7_commonPart_44 rfl ?_
        refine x_rl (pc := 46) dX7_commonPart_46 rfl ?_
        have hz : b = 0 := (pk_lEQ (a := b) (b := 0) (by omega) (by omega)).mp ((lg_cmp_eq _ _).mp h20)
        exact ⟨by rw [he]; simp only [gcL]; rw [if_pos hz], rfl⟩
      · have hb0 : ¬ b = 0 := fun z => h20 ((lg_cmp_eq _ _).mpr (by rw [z]; rfl))
        refine x_lload (pc := 23) dX7_commonPart_23 rfl ?_
        refine x_lload (pc := 25) dX7_commonPart_25 rfl ?_
        refine x_lrem (pc := 27) dX7_commonPart_27 (fun q => hb0 ((pk_lEQ (by omega) (by omega)).mp q)) ?_
        rw [pk_lRem (by omega) (by omega) (by omega)]
        refine x_lstore (pc := 28) (L' := [_, _, _, _, _, _, _, _, _, _, _]) dX7_commonPart_28 (by decide) rfl ?_
        refine x_lload (pc := 30) dX7_commonPart_30 rfl ?_
        refine x_lstore (pc := 32) (L' := [_, _, _, _, _, _, _, _, _, _, _]) dX7_commonPart_32 (by decide) rfl ?_
        refine x_lload (pc := 34) dX7_commonPart_34 rfl ?_
        refine x_lstore (pc := 36) (L' := [_, _, _, _, _, _, _, _, _, _, _]) dX7_commonPart_36 (by decide) rfl ?_
        refine x_iinc (pc := 38) (L' := [_, _, _, _, _, _, _, _, _, _, _]) dX7_commonPart_38 (by decide) rfl ((nI_inc _).trans (congrArg nI e1)) rfl ?_
        refine x_goto (pc := 41) (tgt := 9) dX7_commonPart_41 (by decide) ?_
        exact mJ.weak (wk_v (wk_n (wk_v (wk_n (wk_v (wk_n (wk_v (wk_n (wk_v (wk_n (wk_n wk_0))))))))))) (ih b (a % b) (by omega) hb (Nat.lt_of_le_of_lt (Nat.mod_le _ _) ha) (by rw [he]; simp only [gcL]; rw [if_neg hb0]))
  refine mC.of (L := [_, _, _, _, _, _, _, _, _, _, _]) okX7_commonPart 7 rfl rfl ?_
  refine x_lload_n (pc := 0) (i := 0) dX7_commonPart_0 rfl rfl ?_
  refine x_lstore (pc := 1) (L' := [_, _, _, _, _, _, _, _, _, _, _]) dX7_commonPart_1 (by decide) rfl ?_
  refine x_lload_n (pc := 3) (i := 2) dX7_commonPart_3 rfl rfl ?_
  refine x_lstore (pc := 4) (L' := [_, _, _, _, _, _, _, _, _, _, _]) dX7_commonPart_4 (by decide) rfl ?_
  refine x_iconst (pc := 6) (v := 0) dX7_commonPart_6 (by decide) ?_
  refine x_istore (pc := 7) (L' := [_, _, _, _, _, _, _, _, _, _, _]) dX7_commonPart_7 (by decide) rfl ?_
  exact lp 100 a0 b0 (by omega) ha0 hb0 rfl

