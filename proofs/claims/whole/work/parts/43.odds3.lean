theorem c_X8_inLeastTerms {d : Nat} {w : mW} {u v : Nat} {k : Int32} (hu : u < 2 ^ 62) (hv : v < 2 ^ 62) (hv0 : 0 < v) : mC d kX8_inLeastTerms [.long (lN u), .long (lN v), .int k] w (fun r w' => r = some (.long (if k = 0 then lN (u / Nat.gcd u v) else lN (v / Nat.gcd u v))) ∧ w' = w) := by
  have hg : 0 < Nat.gcd u v := Nat.gcd_pos_of_pos_right _ hv0
  have lp : ∀ (m a b : Nat), b < m → a < 2 ^ 62 → b < 2 ^ 62 → Nat.gcd a b = Nat.gcd u v → mJ mX0 d kX8_inLeastTerms (fun r w' => r = some (.long (if k = 0 then lN (u / Nat.gcd u v) else lN (v / Nat.gcd u v))) ∧ w' = w) 6 [.long (lN u), .null, .long (lN v), .null, .int k, .long (lN a), .null, .long (lN b), .null, .null, .null] [] w := by
    intro m
    induction m with
    | zero => intro a b h; omega
    | succ m ih =>
      intro a b hbm ha hb hgc
      refine x_lload (pc := 6) dX8_inLeastTerms_6 rfl ?_
      refine x_lconst (pc := 8) (v := 0) dX8_inLeastTerms_8 (by decide) ?_
      refine x_lcmp (pc := 9) dX8_inLeastTerms_9 ?_
      refine x_if_eq (pc := 10) (tgt := 31) dX8_inLeastTerms_10 (by decide) (fun h10 => ?_) (fun h10 => ?_)
      · have hb0 : b = 0 := (pk_lEQ (a := b) (b := 0) (by omega) (by omega)).mp ((lg_cmp_eq _ _).mp h10)
        have hag : a = Nat.gcd u v := by rw [← hgc, hb0, Nat.gcd_zero_right]
        rw [hag]
        refine x_iload (pc := 31) dX8_inLeastTerms_31 rfl ?_
        refine x_if_ne (pc := 33) (tgt := 43) dX8_inLeastTerms_33 (by decide) (fun h33 => ?_) (fun h33 => ?_)
        · refine x_lload_n (pc := 43) (i := 2) dX8_inLeastTerms_43 rfl rfl ?_
          refine x_lload (pc := 44) dX8_inLeastTerms_44 rfl ?_
          refine x_ldiv (pc := 46) dX8_inLeastTerms_46 (fun q => absurd ((pk_lEQ (a := Nat.gcd u v) (b := 0) (by omega) (by omega)).mp q) (by omega)) ?_
          refine x_rl (pc := 47) dX8_inLeastTerms_47 rfl ?_
          first | (rw [if_pos h33]; exact ⟨rfl, rfl⟩) | (rw [if_neg h33, pk_lDiv (by omega) (by omega) (by omega)]; exact ⟨rfl, rfl⟩)
        · refine x_lload_n (pc := 36) (i := 0) dX8_inLeastTerms_36 rfl rfl ?_
          refine x_lload (pc := 37) dX8_inLeastTerms_37 rfl ?_
          refine x_ldiv (pc := 39) dX8_inLeastTerms_39 (fun q => absurd ((pk_lEQ (a := Nat.gcd u v) (b := 0) (by omega) (by omega)).mp q) (by omega)) ?_
          rw [pk_lDiv (by omega) (by omega) (by omega)]
          refine x_goto (pc := 40) (tgt := 47) dX8_inLeastTerms_40 (by decide) ?_
          refine x_rl (pc := 47) dX8_inLeastTerms_47 rfl ?_
          first | (rw [if_pos h33]; exact ⟨rfl, rfl⟩) | (rw [if_neg h33, pk_lDiv (by omega) (by omega) (by omega)]; exact ⟨rfl, rfl⟩)
      · have hb0 : ¬ b = 0 := fun z => h10 ((lg_cmp_eq _ _).mpr (by rw [z]; rfl))
        refine x_lload (pc := 13) dX8_inLeastTerms_13 rfl ?_
        refine x_lload (pc := 15) dX8_inLeastTerms_15 rfl ?_
        refine x_lrem (pc := 17) dX8_inLeastTerms_17 (fun q => hb0 ((pk_lEQ (a := b) (b := 0) (by omega) (by omega)).mp q)) ?_
        rw [pk_lRem (by omega) (by omega) (by omega)]
        refine x_lstore (pc := 18) (L' := [_, _, _, _, _, _, _, _, _, _, _]) dX8_inLeastTerms_18 (by decide) rfl ?_
        refine x_lload (pc := 20) dX8_inLeastTerms_20 rfl ?_
        refine x_lstore (pc := 22) (L' := [_, _, _, _, _, _, _, _, _, _, _]) dX8_inLeastTerms_22 (by decide) rfl ?_
        refine x_lload (pc := 24) dX8_inLeastTerms_24 rfl ?_
        refine x_lstore (pc := 26) (L' := [_, _, _, _, _, _, _, _, _, _, _]) dX8_inLeastTerms_26 (by decide) rfl ?_
        refine x_goto (pc := 28) (tgt := 6) dX8_inLeastTerms_28 (by decide) ?_
        have hlt : a % b < b := Nat.mod_lt _ (by omega)
        exact mJ.weak (wk_v (wk_n (wk_v (wk_n (wk_v (wk_v (wk_n (wk_v (wk_n (wk_n (wk_n wk_0))))))))))) (ih b (a % b) (by omega) hb (by omega) (by rw [← hgc, Nat.gcd_comm a b, Nat.gcd_rec b a, Nat.gcd_comm]))
  refine mC.of (L := [_, _, _, _, _, _, _, _, _, _, _]) okX8_inLeastTerms 6 rfl rfl ?_
  refine x_lload_n (pc := 0) (i := 0) dX8_inLeastTerms_0 rfl rfl ?_
  refine x_lstore (pc := 1) (L' := [_, _, _, _, _, _, _, _, _, _, _]) dX8_inLeastTerms_1 (by decide) rfl ?_
  refine x_lload_n (pc := 3) (i := 2) dX8_inLeastTerms_3 rfl rfl ?_
  refine x_lstore (pc := 4) (L' := [_, _, _, _, _, _, _, _, _, _, _]) dX8_inLeastTerms_4 (by decide) rfl ?_
  exact lp (v + 1) u v (by omega) hu hv rfl
/-- how many digits of N are b -/
def digC (B nw b N : Nat) : Nat := cntN (fun j => decide (dig B nw N j = b)) nw
theorem c_X8_odds_no {d : Nat} {w : mW} {b k : Int32} (hS : Shape w) (h : ¬ ((0 ≤ b ∧ b < fld w 44 5) ∧ 0 ≤ k ∧ k ≤ 1)) : mC (d + 1) kX8_odds [.ref 44, .int b, .int k] w (fun r w' => r = some (.long (-9223372036854775808)) ∧ w' = w) := by
  refine mC.of (L := [_, _, _, _, _, _, _]) okX8_odds 4 rfl rfl ?_
  refine x_aload_n (pc := 0) (i := 0) dX8_odds_0 rfl rfl ?_
  refine x_iload_n (pc := 1) (i := 1) dX8_odds_1 rfl rfl ?_
  refine x_vs (pc := 2) (As := [_]) rfl hS lX8_152 dX8_odds_2 rfl rfl (Nat.le_of_ble_eq_true rfl) (c_X8_isBarrow hS) ?_
  rintro _ _ ⟨rfl, hq⟩
  obtain rfl := hq.symm
  refine x_pushI ?_
  refine x_if_eq (pc := 5) (tgt := 17) dX8_odds_5 (by decide) (fun h5 => ?_) (fun h5 => ?_)
  · refine x_ldc2 (pc := 17) dX8_odds_17 qX8_86 ?_
    refine x_rl (pc := 20) dX8_odds_20 rfl ?_
    exact ⟨rfl, rfl⟩
  · refine x_iload_n (pc := 8) (i := 2) dX8_odds_8 rfl rfl ?_
    refine x_iconst (pc := 9) (v := 0) dX8_odds_9 (by decide) ?_
    refine x_iconst (pc := 10) (v := 1) dX8_odds_10 (by decide) ?_
    refine x_ss (pc := 11) (As := [_, _, _]) rfl lX8_88 dX8_odds_11 rfl (Nat.le_of_ble_eq_true rfl) c_X8_within ?_
    rintro _ _ ⟨rfl, hq⟩
    obtain rfl := hq.symm
    refine x_pushI ?_
    refine x_if_ne (pc := 14) (tgt := 21) dX8_odds_14 (by decide) (fun h14 => ?_) (fun h14 => ?_)
    · exfalso; (try simp only [b2_e0, b2_n0, Decidable.not_not] at *) <;> (try simp only [i_lt, i_le, i_eq, not_and, not_or, ne_eq, il_0, il_1, il_2, il_3, il_4, il_5, il_6, il_7, il_8, il_9, il_10, il_14, il_15, il_19, il_20, il_24, il_30, il_31, il_44, il_48, il_49, il_52, il_57, il_59, il_60, il_70, il_99, il_100, il_103, il_108, il_114, il_m1, il_m2, il_m3, il_m4, il_m9, il_m10, il_m100] at *) <;> omega
    · refine x_ldc2 (pc := 17) dX8_odds_17 qX8_86 ?_
      refine x_rl (pc := 20) dX8_odds_20 rfl ?_
      exact ⟨rfl, rfl⟩
def odP (B nw b H : Nat) : Nat → Bool := fun N => decide (H ≤ digC B nw b N)
theorem cntN_le (p : Nat → Bool) : ∀ n, cntN p n ≤ n
  | 0 => Nat.le_refl 0
  | n + 1 => by have := cntN_le p n; unfold cntN; split <;> omega
theorem c_X8_odds {d : Nat} {w : mW} {k : Int32} {b H nb nw : Nat} (hS0 : Shape w) (tb : (fld w 44 5).toInt = (nb : Int)) (hnb : nb ≤ 5) (tw : (fld w 44 6).toInt = (nw : Int)) (hnw : nw ≤ 5) (hb : b < nb) (hki : arr w 48 b = 0 ∨ arr w 48 b = 1 ∨ arr w 48 b = 2) (hH : holdsE (arr w 48 b) (arr w 49 b) = nI H) (hH2 : H ≤ 8) (hk : 0 ≤ k ∧ k ≤ 1) : mC (d + 2) kX8_odds [.ref 44, .int (nI b), .int k] w (fun r w' => r = some (.long (if k = 0 then lN (cntN (odP (nb + 1) nw b H) ((nb + 1) ^ nw) / Nat.gcd (cntN (odP (nb + 1) nw b H) ((nb + 1) ^ nw)) ((nb + 1) ^ nw)) else lN ((nb + 1) ^ nw / Nat.gcd (cntN (odP (nb + 1) nw b H) ((nb + 1) ^ nw)) ((nb + 1) ^ nw)))) ∧ ∃ r, w' = setA w 63 r) := by
  have ew := nI_ofT tw (by omega)
  have twn : (nI nw).toInt = (nw : Int) := nI_toInt (by omega)
  have tbb : (nI b).toInt = (b : Int) := nI_toInt (by omega)
  have s4 := pw_small (nb + 1) (by omega) nw hnw
  have s5 : 0 < (nb + 1) ^ nw := Nat.pow_pos (by omega)
  have tR : (nI ((nb + 1) ^ nw)).toInt = (((nb + 1) ^ nw : Nat) : Int) := nI_toInt (by omega)
  have lp : ∀ (m N : Nat) (r : Nat → Int32), N ≤ (nb + 1) ^ nw → (nb + 1) ^ nw < N + m → mJ mX0 (d + 2) kX8_odds (fun r w' => r = some (.long (if k = 0 then lN (cntN (odP (nb + 1) nw b H) ((nb + 1) ^ nw) / Nat.gcd (cntN (odP (nb + 1) nw b H) ((nb + 1) ^ nw)) ((nb + 1) ^ nw)) else lN ((nb + 1) ^ nw / Nat.gcd (cntN (odP (nb + 1) nw b H) ((nb + 1) ^ nw)) ((nb + 1) ^ nw)))) ∧ ∃ r, w' = setA w 63 r) 26 [.ref 44, .int (nI b), .int k, .int (nI (cntN (odP (nb + 1) nw b H) N)), .int (nI N), .null, .null] [] (setA w 63 r) := by
    intro m
    induction m with
    | zero => intro N r h1 h2; omega
    | succ m ih =>
      intro N r hN1 hN2
      have hS := hS0.stA 63 r
      have tN : (nI N).toInt = (N : Int) := nI_toInt (by omega)
      have hcN := cntN_le (odP (nb + 1) nw b H) N
      -- the inner loop: how many lie in b
      have inn : N < (nb + 1) ^ nw → ∀ (m2 j : Nat), j ≤ nw → nw < j + m2 → mJ mX0 (d + 2) kX8_odds (fun r w' => r = some (.long (if k = 0 then lN (cntN (odP (nb + 1) nw b H) ((nb + 1) ^ nw) / Nat.gcd (cntN (odP (nb + 1) nw b H) ((nb + 1) ^ nw)) ((nb + 1) ^ nw)) else lN ((nb + 1) ^ nw / Nat.gcd (cntN (odP (nb + 1) nw b H) ((nb + 1) ^ nw)) ((nb + 1) ^ nw)))) ∧ ∃ r, w' = setA w 63 r) 47 [.ref 44, .int (nI b), .int k, .int (nI (cntN (odP (nb + 1) nw b H) N)), .int (nI N), .int (nI (cntN (fun j => decide (dig (nb + 1) nw N j = b)) j)), .int (nI j)] [] (setA w 63 (rowF (nb + 1) nw N 0 r)) := by
        intro hNN m2
        induction m2 with
        | zero => intro j h1 h2; omega
        | succ m2 ih2 =>
          intro j hj1 hj2
          have hS := hS0.stA 63 (rowF (nb + 1) nw N 0 r)
          have tj : (nI j).toInt = (j : Int) := nI_toInt (by omega)
          have hc2 := cntN_le (fun j => decide (dig (nb + 1) nw N j = b)) j
          refine x_iload (pc := 47) dX8_odds_47 rfl ?_
          refine x_aload_n (pc := 49) (i := 0) dX8_odds_49 rfl rfl ?_
          refine x_getI (pc := 50) hS fX8_95 dX8_odds_50 rfl rfl ?_
          rw [fld_setA, ew]
          refine x_icmp_ge (pc := 53) (tgt := 83) dX8_odds_53 (by decide) (fun h53 => ?_) (fun h53 => ?_)
          · refine x_iload_n (pc := 83) (i := 3) dX8_odds_83 rfl rfl ?_
            refine x_iload (pc := 84) dX8_odds_84 rfl ?_
            refine x_aload_n (pc := 86) (i := 0) dX8_odds_86 rfl rfl ?_
            refine x_iload_n (pc := 87) (i := 1) dX8_odds_87 rfl rfl ?_
            refine x_vs (pc := 88) (As := [_]) rfl hS lX8_155 dX8_odds_88 rfl rfl (Nat.le_of_ble_eq_true rfl) (c_X8_holdsOf hS (by omega) (by rw [arr_setA_a (by decide)]; exact hki)) ?_
            rintro _ _ ⟨rfl, hq⟩
            obtain rfl := hq.symm
            refine x_pushI ?_
            rw [arr_setA_a (by decide), arr_setA_a (by decide), hH]
            refine x_icmp_lt (pc := 91) (tgt := 98) dX8_odds_91 (by decide) (fun h91 => ?_) (fun h91 => ?_)
            · refine x_iconst (pc := 98) (v := 0) dX8_odds_98 (by decide) ?_
              refine x_iadd (pc := 99) dX8_odds_99 ?_
              refine x_istore_n (pc := 100) (i := 3) (L' := [_, _, _, _, _, _, _]) dX8_odds_100 rfl (by decide) rfl ?_
              refine x_iinc (pc := 101) (L' := [_, _, _, _, _, _, _]) dX8_odds_101 (by decide) rfl (by first | exact nI_inc _ | rfl) rfl ?_
              refine x_goto (pc := 104) (tgt := 26) dX8_odds_104 (by decide) ?_
              have e := show j = nw by (try simp only [b2_e0, b2_n0, Decidable.not_not] at *) <;> (try simp only [i_lt, i_le, i_eq, not_and, not_or, ne_eq, il_0, il_1, il_2, il_3, il_4, il_5, il_6, il_7, il_8, il_9, il_10, il_14, il_15, il_19, il_20, il_24, il_30, il_31, il_44, il_48, il_49, il_52, il_57, il_59, il_60, il_70, il_99, il_100, il_103, il_108, il_114, il_m1, il_m2, il_m3, il_m4, il_m9, il_m10, il_m100] at *) <;> omega
              subst e
              have h9 := ih (N + 1) (rowF (nb + 1) j N 0 r) (by omega) (by omega)
              by_cases hp : odP (nb + 1) j b H N = true
              · rw [cnt_t hp, ← nI_1] at h9; first | exact mJ.weak (wk_v (wk_v (wk_v (wk_v (wk_v (wk_n (wk_n wk_0))))))) h9 | (exfalso; have hq := of_decide_eq_true hp; exact absurd ((nI_ltI (by omega) (by omega)).mp h91) (by unfold digC at hq; omega))
              · rw [cnt_f (by simpa using hp)] at h9; first | (rw [Int32.add_zero]; exact mJ.weak (wk_v (wk_v (wk_v (wk_v (wk_v (wk_n (wk_n wk_0))))))) h9) | (exfalso; have hq := of_decide_eq_false (by simpa using hp : odP (nb + 1) j b H N = false); exact h91 ((nI_ltI (by omega) (by omega)).mpr (by unfold digC at hq; omega)))
            · refine x_iconst (pc := 94) (v := 1) dX8_odds_94 (by decide) ?_
              refine x_goto (pc := 95) (tgt := 99) dX8_odds_95 (by decide) ?_
              refine x_iadd (pc := 99) dX8_odds_99 ?_
              refine x_istore_n (pc := 100) (i := 3) (L' := [_, _, _, _, _, _, _]) dX8_odds_100 rfl (by decide) rfl ?_
              refine x_iinc (pc := 101) (L' := [_, _, _, _, _, _, _]) dX8_odds_101 (by decide) rfl (by first | exact nI_inc _ | rfl) rfl ?_
              refine x_goto (pc := 104) (tgt := 26) dX8_odds_104 (by decide) ?_
              have e := show j = nw by (try simp only [b2_e0, b2_n0, Decidable.not_not] at *) <;> (try simp only [i_lt, i_le, i_eq, not_and, not_or, ne_eq, il_0, il_1, il_2, il_3, il_4, il_5, il_6, il_7, il_8, il_9, il_10, il_14, il_15, il_19, il_20, il_24, il_30, il_31, il_44, il_48, il_49, il_52, il_57, il_59, il_60, il_70, il_99, il_100, il_103, il_108, il_114, il_m1, il_m2, il_m3, il_m4, il_m9, il_m10, il_m100] at *) <;> omega
              subst e
              have h9 := ih (N + 1) (rowF (nb + 1) j N 0 r) (by omega) (by omega)
              by_cases hp : odP (nb + 1) j b H N = true
              · rw [cnt_t hp, ← nI_1] at h9; first | exact mJ.weak (wk_v (wk_v (wk_v (wk_v (wk_v (wk_n (wk_n wk_0))))))) h9 | (exfalso; have hq := of_decide_eq_true hp; exact absurd ((nI_ltI (by omega) (by omega)).mp h91) (by unfold digC at hq; omega))
              · rw [cnt_f (by simpa using hp)] at h9; first | (rw [Int32.add_zero]; exact mJ.weak (wk_v (wk_v (wk_v (wk_v (wk_v (wk_n (wk_n wk_0))))))) h9) | (exfalso; have hq := of_decide_eq_false (by simpa using hp : odP (nb + 1) j b H N = false); exact h91 ((nI_ltI (by omega) (by omega)).mpr (by unfold digC at hq; omega)))
          · have hjn : j < nw := by (try simp only [b2_e0, b2_n0, Decidable.not_not] at *) <;> (try simp only [i_lt, i_le, i_eq, not_and, not_or, ne_eq, il_0, il_1, il_2, il_3, il_4, il_5, il_6, il_7, il_8, il_9, il_10, il_14, il_15, il_19, il_20, il_24, il_30, il_31, il_44, il_48, il_49, il_52, il_57, il_59, il_60, il_70, il_99, il_100, il_103, il_108, il_114, il_m1, il_m2, il_m3, il_m4, il_m9, il_m10, il_m100] at *) <;> omega
            have hdg : rowF (nb + 1) nw N 0 r j = nI (dig (nb + 1) nw N j) := by unfold rowF; rw [if_pos (by omega)]
            have hdl : dig (nb + 1) nw N j < nb + 1 := Nat.mod_lt _ (by omega)
            refine x_iload (pc := 56) dX8_odds_56 rfl ?_
            refine x_aload_n (pc := 58) (i := 0) dX8_odds_58 rfl rfl ?_
            refine x_getR (pc := 59) hS fX8_64 dX8_odds_59 rfl rfl ?_
            refine x_iload (pc := 62) dX8_odds_62 rfl ?_
            refine x_aldN (pc := 64) hS dX8_odds_64 rfl (by omega) (by decide) ?_
            rw [arr_setA hS0 rfl, hdg]
            refine x_iload_n (pc := 65) (i := 1) dX8_odds_65 rfl rfl ?_
            refine x_icmp_ne (pc := 66) (tgt := 73) dX8_odds_66 (by decide) (fun h66 => ?_) (fun h66 => ?_)
            · refine x_iconst (pc := 73) (v := 0) dX8_odds_73 (by decide) ?_
              refine x_iadd (pc := 74) dX8_odds_74 ?_
              refine x_istore (pc := 75) (L' := [_, _, _, _, _, _, _]) dX8_odds_75 (by decide) rfl ?_
              refine x_iinc (pc := 77) (L' := [_, _, _, _, _, _, _]) dX8_odds_77 (by decide) rfl (by first | exact nI_inc _ | rfl) rfl ?_
              refine x_goto (pc := 80) (tgt := 47) dX8_odds_80 (by decide) ?_
              have h9 := ih2 (j + 1) (by omega) (by omega)
              by_cases hp : dig (nb + 1) nw N j = b
              · rw [cnt_t (by simpa using hp), ← nI_1] at h9; first | exact h9 | exact absurd (congrArg nI hp) h66
              · rw [cnt_f (by simpa using hp)] at h9; first | (rw [Int32.add_zero]; exact h9) | exact absurd ((nI_eq (by omega) (by omega)).mp h66) hp
            · refine x_iconst (pc := 69) (v := 1) dX8_odds_69 (by decide) ?_
              refine x_goto (pc := 70) (tgt := 74) dX8_odds_70 (by decide) ?_
              refine x_iadd (pc := 74) dX8_odds_74 ?_
              refine x_istore (pc := 75) (L' := [_, _, _, _, _, _, _]) dX8_odds_75 (by decide) rfl ?_
              refine x_iinc (pc := 77) (L' := [_, _, _, _, _, _, _]) dX8_odds_77 (by decide) rfl (by first | exact nI_inc _ | rfl) rfl ?_
              refine x_goto (pc := 80) (tgt := 47) dX8_odds_80 (by decide) ?_
              have h9 := ih2 (j + 1) (by omega) (by omega)
              by_cases hp : dig (nb + 1) nw N j = b
              · rw [cnt_t (by simpa using hp), ← nI_1] at h9; first | exact h9 | exact absurd (congrArg nI hp) h66
              · rw [cnt_f (by simpa using hp)] at h9; first | (rw [Int32.add_zero]; exact h9) | exact absurd ((nI_eq (by omega) (by omega)).mp h66) hp
      refine x_iload (pc := 26) dX8_odds_26 rfl ?_
      refine x_aload_n (pc := 28) (i := 0) dX8_odds_28 rfl rfl ?_
      refine x_vs (pc := 29) (As := []) rfl hS lX8_215 dX8_odds_29 rfl rfl (Nat.le_of_ble_eq_true rfl) (c_X8_rowsOf hS (by rw [fld_setA]; exact tb) hnb (by rw [fld_setA]; exact tw) hnw) ?_
      rintro _ _ ⟨rfl, hq⟩
      obtain rfl := hq.symm
      refine x_pushI ?_
      refine x_icmp_ge (pc := 32) (tgt := 107) dX8_odds_32 (by decide) (fun h32 => ?_) (fun h32 => ?_)
      · have e := show N = (nb + 1) ^ nw by (try simp only [b2_e0, b2_n0, Decidable.not_not] at *) <;> (try simp only [i_lt, i_le, i_eq, not_and, not_or, ne_eq, il_0, il_1, il_2, il_3, il_4, il_5, il_6, il_7, il_8, il_9, il_10, il_14, il_15, il_19, il_20, il_24, il_30, il_31, il_44, il_48, il_49, il_52, il_57, il_59, il_60, il_70, il_99, il_100, il_103, il_108, il_114, il_m1, il_m2, il_m3, il_m4, il_m9, il_m10, il_m100] at *) <;> omega
        subst e
        refine x_iload_n (pc := 107) (i := 3) dX8_odds_107 rfl rfl ?_
        refine x_i2l (pc := 108) dX8_odds_108 rfl ?_
        rw [nI_l (by omega)]
        refine x_aload_n (pc := 109) (i := 0) dX8_odds_109 rfl rfl ?_
        refine x_vs (pc := 110) (As := []) rfl hS lX8_215 dX8_odds_110 rfl rfl (Nat.le_of_ble_eq_true rfl) (c_X8_rowsOf hS (by rw [fld_setA]; exact tb) hnb (by rw [fld_setA]; exact tw) hnw) ?_
        rintro _ _ ⟨rfl, hq⟩
        obtain rfl := hq.symm
        refine x_pushI ?_
        refine x_i2l (pc := 113) dX8_odds_113 rfl ?_
        rw [nI_l (by omega)]
        refine x_iload_n (pc := 114) (i := 2) dX8_odds_114 rfl rfl ?_
        refine x_ss (pc := 115) (As := [_, _, _]) rfl lX8_241 dX8_odds_115 rfl (Nat.le_of_ble_eq_true rfl) (c_X8_inLeastTerms (by omega) (by omega) (by omega)) ?_
        rintro _ _ ⟨rfl, hq⟩
        obtain rfl := hq.symm
        refine x_pushL ?_
        refine x_rl (pc := 118) dX8_odds_118 rfl ?_
        exact ⟨rfl, r, rfl⟩
      · refine x_aload_n (pc := 35) (i := 0) dX8_odds_35 rfl rfl ?_
        refine x_iload (pc := 36) dX8_odds_36 rfl ?_
        refine x_vs (pc := 38) (As := [_]) rfl hS lX8_218 dX8_odds_38 rfl rfl (Nat.le_of_ble_eq_true rfl) (c_X8_rowOf hS (by rw [fld_setA]; exact tb) hnb (by rw [fld_setA]; exact tw) hnw (by omega)) ?_
        rintro _ _ ⟨rfl, hq⟩
        obtain rfl := hq.symm
        refine x_pushV ?_
        refine x_iconst (pc := 41) (v := 0) dX8_odds_41 (by decide) ?_
        refine x_istore (pc := 42) (L' := [_, _, _, _, _, _, _]) dX8_odds_42 (by decide) rfl ?_
        refine x_iconst (pc := 44) (v := 0) dX8_odds_44 (by decide) ?_
        refine x_istore (pc := 45) (L' := [_, _, _, _, _, _, _]) dX8_odds_45 (by decide) rfl ?_
        rw [arr_setA hS0 rfl, setA_setA]
        exact inn (by (try simp only [b2_e0, b2_n0, Decidable.not_not] at *) <;> (try simp only [i_lt, i_le, i_eq, not_and, not_or, ne_eq, il_0, il_1, il_2, il_3, il_4, il_5, il_6, il_7, il_8, il_9, il_10, il_14, il_15, il_19, il_20, il_24, il_30, il_31, il_44, il_48, il_49, il_52, il_57, il_59, il_60, il_70, il_99, il_100, il_103, il_108, il_114, il_m1, il_m2, il_m3, il_m4, il_m9, il_m10, il_m100] at *) <;> omega) (nw + 1) 0 (by omega) (by omega)
  have h9 := lp ((nb + 1) ^ nw + 1) 0 (arr w 63) (by omega) (by omega)
  rw [setA_self hS0 rfl] at h9
  have hS := hS0
  refine mC.of (L := [_, _, _, _, _, _, _]) okX8_odds 4 rfl rfl ?_
  refine x_aload_n (pc := 0) (i := 0) dX8_odds_0 rfl rfl ?_
  refine x_iload_n (pc := 1) (i := 1) dX8_odds_1 rfl rfl ?_
  refine x_vs (pc := 2) (As := [_]) rfl hS lX8_152 dX8_odds_2 rfl rfl (Nat.le_of_ble_eq_true rfl) (c_X8_isBarrow hS) ?_
  rintro _ _ ⟨rfl, hq⟩
  obtain rfl := hq.symm
  refine x_pushI ?_
  refine x_if_eq (pc := 5) (tgt := 17) dX8_odds_5 (by decide) (fun h5 => absurd h5 (by rw [b2_e0]; exact not_not_intro ⟨by (try simp only [b2_e0, b2_n0, Decidable.not_not] at *) <;> (try simp only [i_lt, i_le, i_eq, not_and, not_or, ne_eq, il_0, il_1, il_2, il_3, il_4, il_5, il_6, il_7, il_8, il_9, il_10, il_14, il_15, il_19, il_20, il_24, il_30, il_31, il_44, il_48, il_49, il_52, il_57, il_59, il_60, il_70, il_99, il_100, il_103, il_108, il_114, il_m1, il_m2, il_m3, il_m4, il_m9, il_m10, il_m100] at *) <;> omega, by (try simp only [b2_e0, b2_n0, Decidable.not_not] at *) <;> (try simp only [i_lt, i_le, i_eq, not_and, not_or, ne_eq, il_0, il_1, il_2, il_3, il_4, il_5, il_6, il_7, il_8, il_9, il_10, il_14, il_15, il_19, il_20, il_24, il_30, il_31, il_44, il_48, il_49, il_52, il_57, il_59, il_60, il_70, il_99, il_100, il_103, il_108, il_114, il_m1, il_m2, il_m3, il_m4, il_m9, il_m10, il_m100] at *) <;> omega⟩)) (fun h5 => ?_)
  refine x_iload_n (pc := 8) (i := 2) dX8_odds_8 rfl rfl ?_
  refine x_iconst (pc := 9) (v := 0) dX8_odds_9 (by decide) ?_
  refine x_iconst (pc := 10) (v := 1) dX8_odds_10 (by decide) ?_
  refine x_ss (pc := 11) (As := [_, _, _]) rfl lX8_88 dX8_odds_11 rfl (Nat.le_of_ble_eq_true rfl) c_X8_within ?_
  rintro _ _ ⟨rfl, hq⟩
  obtain rfl := hq.symm
  refine x_pushI ?_
  refine x_if_ne (pc := 14) (tgt := 21) dX8_odds_14 (by decide) (fun h14 => ?_) (fun h14 => absurd h14 (by rw [b2_n0]; exact hk))
  refine x_iconst (pc := 21) (v := 0) dX8_odds_21 (by decide) ?_
  refine x_istore_n (pc := 22) (i := 3) (L' := [_, _, _, _, _, _, _]) dX8_odds_22 rfl (by decide) rfl ?_
  refine x_iconst (pc := 23) (v := 0) dX8_odds_23 (by decide) ?_
  refine x_istore (pc := 24) (L' := [_, _, _, _, _, _, _]) dX8_odds_24 (by decide) rfl ?_
  exact h9
-- the count
theorem cntN_add (p : Nat → Bool) (a : Nat) : ∀ k, cntN p (a + k) = cntN p a + cntN (fun r => p (a + r)) k
  | 0 => rfl
  | k + 1 => by
    show cntN p (a + k) + (if p (a + k) then 1 else 0) = _
    rw [cntN_add p a k]
    simp only [cntN]
    omega
theorem digC_s (B n b N : Nat) : digC B (n + 1) b N = digC B n b (N / B) + (if N % B = b then 1 else 0) := by
  unfold digC
  simp only [cntN]
  congr 1
  · refine cntN_congr (fun j hj => ?_)
    unfold dig
    rw [Nat.div_div_eq_div_mul, show n + 1 - 1 - j = (n - 1 - j) + 1 by omega, Nat.pow_succ, Nat.mul_comm]
  · unfold dig
    have e0 : n + 1 - 1 - n = 0 := by omega
    simp [e0]
theorem cnt_all {p : Nat → Bool} : ∀ {n : Nat}, (∀ j, j < n → p j = true) → cntN p n = n
  | 0, _ => rfl
  | n + 1, h => by simp only [cntN]; rw [cnt_all (fun j hj => h j (by omega)), h n (by omega)]; rfl
theorem cnt_none {p : Nat → Bool} : ∀ {n : Nat}, (∀ j, j < n → p j = false) → cntN p n = 0
  | 0, _ => rfl
  | n + 1, h => by simp only [cntN]; rw [cnt_none (fun j hj => h j (by omega)), h n (by omega)]; rfl
theorem cnt_one {p : Nat → Bool} {b : Nat} (hp : ∀ j, p j = decide (j = b)) : ∀ {n : Nat}, b < n → cntN p n = 1
  | 0, h => absurd h (Nat.not_lt_zero _)
  | n + 1, h => by
    simp only [cntN]
    by_cases e : b = n
    · subst e
      rw [cnt_none (fun j hj => by rw [hp]; simp; omega), hp]; simp
    · rw [cnt_one hp (by omega), hp]; simp; omega
theorem cnt_blk {B b h c : Nat} (hb : b < B) : cntN (fun r => decide (h ≤ c + (if r = b then 1 else 0))) B = (B - 1) * (if h ≤ c then 1 else 0) + (if h ≤ c + 1 then 1 else 0) := by
  by_cases h1 : h ≤ c
  · rw [if_pos h1, if_pos (by omega), cnt_all (fun j _ => by simp; omega)]; omega
  · by_cases h2 : h ≤ c + 1
    · rw [if_neg h1, if_pos h2, cnt_one (b := b) (fun j => ?_) hb]
      · omega
      · by_cases e : j = b
        · subst e; simp; omega
        · simp [e]; omega
    · rw [if_neg h1, if_neg h2, cnt_none (fun j _ => ?_)]
      · omega
      · simp only [decide_eq_false_iff_not]; split <;> omega
theorem odP_s {B n b h : Nat} (hb : b < B) : ∀ m, cntN (odP B (n + 1) b h) (m * B) = (B - 1) * cntN (fun q => decide (h ≤ digC B n b q)) m + cntN (fun q => decide (h ≤ digC B n b q + 1)) m
  | 0 => by simp [cntN]
  | m + 1 => by
    rw [Nat.succ_mul, cntN_add, odP_s hb m]
    have e : cntN (fun r => odP B (n + 1) b h (m * B + r)) B = cntN (fun r => decide (h ≤ digC B n b m + (if r = b then 1 else 0))) B := by
      refine cntN_congr (fun r hr => ?_)
      unfold odP
      rw [digC_s, Nat.mul_comm m B, Nat.mul_add_div (by omega), Nat.div_eq_of_lt hr, Nat.add_zero, Nat.mul_add_mod, Nat.mod_eq_of_lt hr]
    rw [e, cnt_blk hb]
    simp only [cntN]
    simp only [decide_eq_true_eq]
    rw [Nat.mul_add]
    omega
def arec (B : Nat) : Nat → Nat → Nat
  | 0, h => if h = 0 then 1 else 0
  | n + 1, h => (B - 1) * arec B n h + arec B n (h - 1)
theorem odP_a {B b : Nat} (hb : b < B) : ∀ n h, cntN (odP B n b h) (B ^ n) = arec B n h
  | 0, h => by
    simp only [Nat.pow_zero, cntN, odP, digC, arec]
    by_cases e : h = 0 <;> simp [e]
  | n + 1, h => by
    rw [Nat.pow_succ, odP_s hb]
    show _ = (B - 1) * arec B n h + arec B n (h - 1)
    rw [← odP_a hb n h, ← odP_a hb n (h - 1)]
    congr 1
    refine cntN_congr (fun q _ => ?_)
    unfold odP
    have e : (h ≤ digC B n b q + 1) = (h - 1 ≤ digC B n b q) := propext (by omega)
    simp only [e]
theorem od_eq : ∀ nb, nb ≤ 5 → ∀ nw, nw ≤ 5 → ∀ H, H ≤ 8 → arec (nb + 1) nw H = wTl nb nw (nw + 1 - H) H ∧ gcL 100 (wTl nb nw (nw + 1 - H) H) ((nb + 1) ^ nw) = Nat.gcd (wTl nb nw (nw + 1 - H) H) ((nb + 1) ^ nw) := by decide +kernel
theorem holds_H {ki be : Int32} (hk : ki = 0 ∨ ki = 1 ∨ ki = 2) (hb : 1 ≤ be.toInt ∧ be.toInt ≤ 4) : ∃ H, 1 ≤ H ∧ H ≤ 8 ∧ holdsE ki be = nI H := by
  obtain ⟨j, hj, rfl⟩ := nI_of2 (x := be) (M := 4) (n := 4) rfl (by rw [i_lt, il_0]; omega) (by rw [i_le, il_4]; omega)
  have hj1 : 1 ≤ j := by have := hb.1; rw [nI_toInt (by omega)] at this; omega
  rcases hk with h | h | h <;> subst h
  · exact ⟨j, hj1, by omega, rfl⟩
  · refine ⟨2 * j, by omega, by omega, ?_⟩
    show (2 : Int32) * nI j = nI (2 * j)
    exact pk_mul 2 j
  · refine ⟨j + 1, by omega, by omega, ?_⟩
    show nI j + 1 = nI (j + 1)
    exact nI_1 j
theorem Inv.junk {w w2 : mW} {A : List Nat} (hI : Inv w) (hS2 : Shape w2) (g : Gr A [] w w2) (hA : ∀ a ∈ dA, a ∉ A) (hA2 : ∀ a ∈ [41, 42, 43, 66, 67, 68], a ∉ A) (hA3 : ∀ a ∈ [2, 3, 4, 45, 46, 47], a ∉ A) : Inv w2 := by
  obtain ⟨hS, nb, nw, nr, hD, hR, hSI, hT⟩ := hI
  exact ⟨hS2, nb, nw, nr, hD.gr g hA (by decide), hR.gr g hA2 (by decide), hSI.gr g hA3, hT.gr g (by decide)⟩
theorem both_odds {w : mW} (hI : Inv w) (b k : Int32) : BothL kX7_odds kX8_odds [.int b, .int k] w := by
  intro d
  obtain ⟨hS, nb, nw, nr, hD, hR, hSI, hT⟩ := id hI; obtain ⟨h1, h2, h3, tb, tw, hB, hW, ⟨e1, e2, e3⟩, f8, f9, f10, f11, f12, f13, f14, f15, f16⟩ := id hD
  by_cases hbk : (0 ≤ b ∧ b < fld w 7 0) ∧ 0 ≤ k ∧ k ≤ 1
  · obtain ⟨hb, hk⟩ := hbk
    obtain ⟨j, hj, rfl⟩ := in_nI tb (by omega) hb
    obtain ⟨H, hH1, hH2, hH⟩ := holds_H (hB j hj).1 (hB j hj).2.1
    obtain ⟨o1, o2⟩ := od_eq nb h1 nw h2 H hH2
    refine mC.mono (c_X7_odds (d := d + 17) hS tb h1 tw h2 hj hH hH2 hk) ?_
    rintro _ _ ⟨rfl, hq⟩; obtain rfl := hq.symm
    refine ⟨⟨_, rfl⟩, ?_⟩
    refine mC.mono (c_X8_odds (d := d + 18) (H := H) hS (by rw [e1]; exact tb) h1 (by rw [e2]; exact tw) h2 hj (by rw [f8]; exact (hB j hj).1) (by rw [f8, f9]; exact hH) hH2 hk) ?_
    rw [odP_a (by omega), o1, o2]
    rintro _ w2 ⟨rfl, r, hq⟩
    refine ⟨rfl, hI.junk (A := [63]) (by rw [hq]; exact hS.stA _ _) (by rw [hq]; exact Gr.rf.stA (by decide) _) (by decide) (by decide) (by decide)⟩
  · refine mC.mono (c_X7_odds_no (d := d + 19) hS hbk) ?_
    rintro _ _ ⟨rfl, hq⟩; obtain rfl := hq.symm
    refine ⟨⟨_, rfl⟩, ?_⟩
    refine mC.mono (c_X8_odds_no (d := d + 19) hS (by rw [e1]; exact hbk)) ?_
    rintro _ _ ⟨rfl, hq⟩; obtain rfl := hq.symm
    exact ⟨rfl, hI⟩

