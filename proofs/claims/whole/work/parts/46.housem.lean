-- the reference: who can be housed
theorem hIn_y {ρ : Nat → Nat} {b k : Nat} (h : nI (ρ k) = nI b) (h1 : ρ k ≤ 10) (h2 : b ≤ 10) : nI (hIn ρ b k) + 1 = nI (hIn ρ b (k + 1)) := by
  rw [nI_eq (by omega) (by omega)] at h
  rw [hIn_s, if_pos h]; exact nI_1 _
theorem hIn_n {ρ : Nat → Nat} {b k : Nat} (h : ¬ nI (ρ k) = nI b) : nI (hIn ρ b k) + 0 = nI (hIn ρ b (k + 1)) := by
  rw [hIn_s, if_neg (fun q => h (by rw [q])), Nat.add_zero]; exact Int32.add_zero _
theorem hIn_le {ρ : Nat → Nat} {b k : Nat} : hIn ρ b k ≤ k := cntN_le _ _
theorem c_X8_isHeld {d : Nat} {w : mW} {nb nw : Nat} {H ρ : Nat → Nat} (hS : Shape w) (tb : (fld w 44 5).toInt = (nb : Int)) (hnb : nb ≤ 5) (tw : (fld w 44 6).toInt = (nw : Int)) (hnw : nw ≤ 5) (hki : ∀ b, b < nb → arr w 48 b = 0 ∨ arr w 48 b = 1 ∨ arr w 48 b = 2) (hH : ∀ b, b < nb → holdsE (arr w 48 b) (arr w 49 b) = nI (H b) ∧ H b ≤ 8) (hr : ∀ i, i < nw → arr w 63 i = nI (ρ i) ∧ ρ i ≤ nb) : mC (d + 2) kX8_isHeld [.ref 44] w (fun r w' => r = some (.int (b2 (hHeld nb nw H ρ = true))) ∧ w' = w) := by
  have lp : ∀ (m b : Nat), b ≤ nb → nb < b + m → allN (fun b => decide (hIn ρ b nw ≤ H b)) b = true → mJ mX0 (d + 2) kX8_isHeld (fun r w' => r = some (.int (b2 (hHeld nb nw H ρ = true))) ∧ w' = w) 2 [.ref 44, .int (nI b), .null, .null] [] w := by
    intro m
    induction m with
    | zero => intro b h1 h2; omega
    | succ m ih =>
      intro b hb1 hb2 ha
      have tbb : (nI b).toInt = (b : Int) := nI_toInt (by omega)
      have lq : b < nb → ∀ (q k : Nat), k ≤ nw → nw < k + q → mJ mX0 (d + 2) kX8_isHeld (fun r w' => r = some (.int (b2 (hHeld nb nw H ρ = true))) ∧ w' = w) 14 [.ref 44, .int (nI b), .int (nI (hIn ρ b k)), .int (nI k)] [] w := by
        intro hbn q
        induction q with
        | zero => intro k h1 h2; omega
        | succ q ih2 =>
          intro k hk1 hk2
          have tk : (nI k).toInt = (k : Int) := nI_toInt (by omega)
          have hle := hIn_le (ρ := ρ) (b := b) (k := k)
          have tin : (nI (hIn ρ b k)).toInt = (hIn ρ b k : Int) := nI_toInt (by omega)
          have th : (nI (H b)).toInt = (H b : Int) := nI_toInt (by have := (hH b hbn).2; omega)
          refine x_iload_n (pc := 14) (i := 3) dX8_isHeld_14 rfl rfl ?_
          refine x_aload_n (pc := 15) (i := 0) dX8_isHeld_15 rfl rfl ?_
          refine x_getI (pc := 16) hS fX8_95 dX8_isHeld_16 rfl rfl ?_
          refine x_icmp_ge (pc := 19) (tgt := 46) dX8_isHeld_19 (by decide) (fun h19 => ?_) (fun h19 => ?_)
          · refine x_iload_n (pc := 46) (i := 2) dX8_isHeld_46 rfl rfl ?_
            refine x_aload_n (pc := 47) (i := 0) dX8_isHeld_47 rfl rfl ?_
            refine x_iload_n (pc := 48) (i := 1) dX8_isHeld_48 rfl rfl ?_
            refine x_vs (pc := 49) (As := [_]) rfl hS lX8_155 dX8_isHeld_49 rfl rfl (Nat.le_of_ble_eq_true rfl) (c_X8_holdsOf hS (by omega) (hki b (by omega))) ?_
            rintro _ _ ⟨rfl, hq⟩
            obtain rfl := hq.symm
            refine x_pushI ?_
            have hkn : k = nw := by (try simp only [b2_e0, b2_n0, Decidable.not_not] at *) <;> (try simp only [i_lt, i_le, i_eq, not_and, not_or, ne_eq, il_0, il_1, il_2, il_3, il_4, il_5, il_6, il_7, il_8, il_9, il_10, il_14, il_15, il_19, il_20, il_24, il_30, il_31, il_44, il_48, il_49, il_52, il_57, il_59, il_60, il_70, il_99, il_100, il_103, il_108, il_114, il_m1, il_m2, il_m3, il_m4, il_m9, il_m10, il_m100] at *) <;> omega
            rw [(hH b hbn).1]
            refine x_icmp_le (pc := 52) (tgt := 57) dX8_isHeld_52 (by decide) (fun h52 => ?_) (fun h52 => ?_)
            · refine x_iinc (pc := 57) (L' := [_, _, _, _]) dX8_isHeld_57 (by decide) rfl (by first | exact nI_inc _ | rfl) rfl ?_
              refine x_goto (pc := 60) (tgt := 2) dX8_isHeld_60 (by decide) ?_
              exact mJ.weak (wk_v (wk_v (wk_n (wk_n wk_0)))) (ih (b + 1) (by omega) (by omega) (by rw [allN, ha, Bool.true_and, decide_eq_true_eq, ← hkn]; (try simp only [b2_e0, b2_n0, Decidable.not_not] at *) <;> (try simp only [i_lt, i_le, i_eq, not_and, not_or, ne_eq, il_0, il_1, il_2, il_3, il_4, il_5, il_6, il_7, il_8, il_9, il_10, il_14, il_15, il_19, il_20, il_24, il_30, il_31, il_44, il_48, il_49, il_52, il_57, il_59, il_60, il_70, il_99, il_100, il_103, il_108, il_114, il_m1, il_m2, il_m3, il_m4, il_m9, il_m10, il_m100] at *) <;> omega))
            · refine x_iconst (pc := 55) (v := 0) dX8_isHeld_55 (by decide) ?_
              refine x_ri (pc := 56) dX8_isHeld_56 rfl rfl ?_
              exact ⟨by rw [b2_f (by unfold hHeld; rw [allN_iff]; intro z; have := z b hbn; rw [decide_eq_true_eq, ← hkn] at this; (try simp only [b2_e0, b2_n0, Decidable.not_not] at *) <;> (try simp only [i_lt, i_le, i_eq, not_and, not_or, ne_eq, il_0, il_1, il_2, il_3, il_4, il_5, il_6, il_7, il_8, il_9, il_10, il_14, il_15, il_19, il_20, il_24, il_30, il_31, il_44, il_48, il_49, il_52, il_57, il_59, il_60, il_70, il_99, il_100, il_103, il_108, il_114, il_m1, il_m2, il_m3, il_m4, il_m9, il_m10, il_m100] at *) <;> omega)], rfl⟩
          · refine x_iload_n (pc := 22) (i := 2) dX8_isHeld_22 rfl rfl ?_
            refine x_aload_n (pc := 23) (i := 0) dX8_isHeld_23 rfl rfl ?_
            refine x_getR (pc := 24) hS fX8_64 dX8_isHeld_24 rfl rfl ?_
            refine x_iload_n (pc := 27) (i := 3) dX8_isHeld_27 rfl rfl ?_
            refine x_aldN (pc := 28) hS dX8_isHeld_28 rfl (by (try simp only [b2_e0, b2_n0, Decidable.not_not] at *) <;> (try simp only [i_lt, i_le, i_eq, not_and, not_or, ne_eq, il_0, il_1, il_2, il_3, il_4, il_5, il_6, il_7, il_8, il_9, il_10, il_14, il_15, il_19, il_20, il_24, il_30, il_31, il_44, il_48, il_49, il_52, il_57, il_59, il_60, il_70, il_99, il_100, il_103, il_108, il_114, il_m1, il_m2, il_m3, il_m4, il_m9, il_m10, il_m100] at *) <;> omega) (by decide) ?_
            have hkn : k < nw := by (try simp only [b2_e0, b2_n0, Decidable.not_not] at *) <;> (try simp only [i_lt, i_le, i_eq, not_and, not_or, ne_eq, il_0, il_1, il_2, il_3, il_4, il_5, il_6, il_7, il_8, il_9, il_10, il_14, il_15, il_19, il_20, il_24, il_30, il_31, il_44, il_48, il_49, il_52, il_57, il_59, il_60, il_70, il_99, il_100, il_103, il_108, il_114, il_m1, il_m2, il_m3, il_m4, il_m9, il_m10, il_m100] at *) <;> omega
            rw [(hr k hkn).1]
            refine x_iload_n (pc := 29) (i := 1) dX8_isHeld_29 rfl rfl ?_
            refine x_icmp_ne (pc := 30) (tgt := 37) dX8_isHeld_30 (by decide) (fun h30 => ?_) (fun h30 => ?_)
            · refine x_iconst (pc := 37) (v := 0) dX8_isHeld_37 (by decide) ?_
              refine x_iadd (pc := 38) dX8_isHeld_38 ?_
              first | rw [hIn_y h30 (by have := (hr k hkn).2; omega) (by omega)] | rw [hIn_n h30]
              refine x_istore_n (pc := 39) (i := 2) (L' := [_, _, _, _]) dX8_isHeld_39 rfl (by decide) rfl ?_
              refine x_iinc (pc := 40) (L' := [_, _, _, _]) dX8_isHeld_40 (by decide) rfl (by first | exact nI_inc _ | rfl) rfl ?_
              refine x_goto (pc := 43) (tgt := 14) dX8_isHeld_43 (by decide) ?_
              exact ih2 (k + 1) (by (try simp only [b2_e0, b2_n0, Decidable.not_not] at *) <;> (try simp only [i_lt, i_le, i_eq, not_and, not_or, ne_eq, il_0, il_1, il_2, il_3, il_4, il_5, il_6, il_7, il_8, il_9, il_10, il_14, il_15, il_19, il_20, il_24, il_30, il_31, il_44, il_48, il_49, il_52, il_57, il_59, il_60, il_70, il_99, il_100, il_103, il_108, il_114, il_m1, il_m2, il_m3, il_m4, il_m9, il_m10, il_m100] at *) <;> omega) (by omega)
            · refine x_iconst (pc := 33) (v := 1) dX8_isHeld_33 (by decide) ?_
              refine x_goto (pc := 34) (tgt := 38) dX8_isHeld_34 (by decide) ?_
              refine x_iadd (pc := 38) dX8_isHeld_38 ?_
              first | rw [hIn_y h30 (by have := (hr k hkn).2; omega) (by omega)] | rw [hIn_n h30]
              refine x_istore_n (pc := 39) (i := 2) (L' := [_, _, _, _]) dX8_isHeld_39 rfl (by decide) rfl ?_
              refine x_iinc (pc := 40) (L' := [_, _, _, _]) dX8_isHeld_40 (by decide) rfl (by first | exact nI_inc _ | rfl) rfl ?_
              refine x_goto (pc := 43) (tgt := 14) dX8_isHeld_43 (by decide) ?_
              exact ih2 (k + 1) (by (try simp only [b2_e0, b2_n0, Decidable.not_not] at *) <;> (try simp only [i_lt, i_le, i_eq, not_and, not_or, ne_eq, il_0, il_1, il_2, il_3, il_4, il_5, il_6, il_7, il_8, il_9, il_10, il_14, il_15, il_19, il_20, il_24, il_30, il_31, il_44, il_48, il_49, il_52, il_57, il_59, il_60, il_70, il_99, il_100, il_103, il_108, il_114, il_m1, il_m2, il_m3, il_m4, il_m9, il_m10, il_m100] at *) <;> omega) (by omega)
      refine x_iload_n (pc := 2) (i := 1) dX8_isHeld_2 rfl rfl ?_
      refine x_aload_n (pc := 3) (i := 0) dX8_isHeld_3 rfl rfl ?_
      refine x_getI (pc := 4) hS fX8_92 dX8_isHeld_4 rfl rfl ?_
      refine x_icmp_ge (pc := 7) (tgt := 63) dX8_isHeld_7 (by decide) (fun h7 => ?_) (fun h7 => ?_)
      · refine x_iconst (pc := 63) (v := 1) dX8_isHeld_63 (by decide) ?_
        refine x_ri (pc := 64) dX8_isHeld_64 rfl rfl ?_
        exact ⟨by rw [b2_t (by unfold hHeld; rw [show nb = b by (try simp only [b2_e0, b2_n0, Decidable.not_not] at *) <;> (try simp only [i_lt, i_le, i_eq, not_and, not_or, ne_eq, il_0, il_1, il_2, il_3, il_4, il_5, il_6, il_7, il_8, il_9, il_10, il_14, il_15, il_19, il_20, il_24, il_30, il_31, il_44, il_48, il_49, il_52, il_57, il_59, il_60, il_70, il_99, il_100, il_103, il_108, il_114, il_m1, il_m2, il_m3, il_m4, il_m9, il_m10, il_m100] at *) <;> omega]; exact ha)], rfl⟩
      · refine x_iconst (pc := 10) (v := 0) dX8_isHeld_10 (by decide) ?_
        refine x_istore_n (pc := 11) (i := 2) (L' := [_, _, _, _]) dX8_isHeld_11 rfl (by decide) rfl ?_
        refine x_iconst (pc := 12) (v := 0) dX8_isHeld_12 (by decide) ?_
        refine x_istore_n (pc := 13) (i := 3) (L' := [_, _, _, _]) dX8_isHeld_13 rfl (by decide) rfl ?_
        exact lq (by (try simp only [b2_e0, b2_n0, Decidable.not_not] at *) <;> (try simp only [i_lt, i_le, i_eq, not_and, not_or, ne_eq, il_0, il_1, il_2, il_3, il_4, il_5, il_6, il_7, il_8, il_9, il_10, il_14, il_15, il_19, il_20, il_24, il_30, il_31, il_44, il_48, il_49, il_52, il_57, il_59, il_60, il_70, il_99, il_100, il_103, il_108, il_114, il_m1, il_m2, il_m3, il_m4, il_m9, il_m10, il_m100] at *) <;> omega) (nw + 1) 0 (by omega) (by omega)
  refine mC.of (L := [_, _, _, _]) okX8_isHeld 3 rfl rfl ?_
  refine x_iconst (pc := 0) (v := 0) dX8_isHeld_0 (by decide) ?_
  refine x_istore_n (pc := 1) (i := 1) (L' := [_, _, _, _]) dX8_isHeld_1 rfl (by decide) rfl ?_
  exact lp (nb + 1) 0 (by omega) (by omega) rfl
theorem nar_b2 {p : Prop} [Decidable p] : narrow .boolean (.int (b2 p)) = .int (b2 p) := by unfold b2; split <;> rfl
theorem c_X8_canRow {d : Nat} {w : mW} {wo : Int32} {nb nw : Nat} {H ρ : Nat → Nat} {ok : Nat → Nat → Bool} (hS : Shape w) (tb : (fld w 44 5).toInt = (nb : Int)) (hnb : nb ≤ 5) (tw : (fld w 44 6).toInt = (nw : Int)) (hnw : nw ≤ 5) (hki : ∀ b, b < nb → arr w 48 b = 0 ∨ arr w 48 b = 1 ∨ arr w 48 b = 2) (hH : ∀ b, b < nb → holdsE (arr w 48 b) (arr w 49 b) = nI (H b) ∧ H b ≤ 8) (hr : ∀ i, i < nw → arr w 63 i = nI (ρ i) ∧ ρ i ≤ nb) (hpl : ∀ i, i < nw → 0 ≤ (arr w 53 i).toInt ∧ (arr w 53 i).toInt ≤ 9) (hsi : ∀ j, j < nb → 0 ≤ (arr w 51 j).toInt ∧ (arr w 51 j).toInt ≤ 9) (hok : ∀ i, i < nw → ∀ b, b < nb → (ok i b = true ↔ ¬ nI b = wo ∧ suitE (arr w 52) (arr w 53) (arr w 54) (arr w 50) (arr w 51) i b)) : mC (d + 3) kX8_canRow [.ref 44, .int wo] w (fun r w' => r = some (.int (b2 (hCan nb nw H ok ρ = true))) ∧ w' = w) := by
  have eb := nI_ofT tb (by omega)
  have lp : ∀ (m k : Nat), k ≤ nw → nw < k + m → allN (fun i => !(decide (ρ i < nb)) || ok i (ρ i)) k = true → mJ mX0 (d + 3) kX8_canRow (fun r w' => r = some (.int (b2 (hCan nb nw H ok ρ = true))) ∧ w' = w) 2 [.ref 44, .int wo, .int (nI k)] [] w := by
    intro m
    induction m with
    | zero => intro k h1 h2; omega
    | succ m ih =>
      intro k hk1 hk2 ha
      have tk : (nI k).toInt = (k : Int) := nI_toInt (by omega)
      refine x_iload_n (pc := 2) (i := 2) dX8_canRow_2 rfl rfl ?_
      refine x_aload_n (pc := 3) (i := 0) dX8_canRow_3 rfl rfl ?_
      refine x_getI (pc := 4) hS fX8_95 dX8_canRow_4 rfl rfl ?_
      refine x_icmp_ge (pc := 7) (tgt := 55) dX8_canRow_7 (by decide) (fun h7 => ?_) (fun h7 => ?_)
      · refine x_aload_n (pc := 55) (i := 0) dX8_canRow_55 rfl rfl ?_
        refine x_vs (pc := 56) (As := []) rfl hS lX8_208 dX8_canRow_56 rfl rfl (Nat.le_of_ble_eq_true rfl) (c_X8_isHeld hS tb hnb tw hnw hki hH hr) ?_
        rintro _ _ ⟨rfl, hq⟩
        obtain rfl := hq.symm
        refine x_pushI ?_
        refine x_ri (pc := 59) dX8_canRow_59 rfl nar_b2 ?_
        have hkn : k = nw := by (try simp only [b2_e0, b2_n0, Decidable.not_not] at *) <;> (try simp only [i_lt, i_le, i_eq, not_and, not_or, ne_eq, il_0, il_1, il_2, il_3, il_4, il_5, il_6, il_7, il_8, il_9, il_10, il_14, il_15, il_19, il_20, il_24, il_30, il_31, il_44, il_48, il_49, il_52, il_57, il_59, il_60, il_70, il_99, il_100, il_103, il_108, il_114, il_m1, il_m2, il_m3, il_m4, il_m9, il_m10, il_m100] at *) <;> omega
        rw [hkn] at ha
        exact ⟨by rw [show hCan nb nw H ok ρ = hHeld nb nw H ρ from by unfold hCan; rw [ha, Bool.true_and]], rfl⟩
      · have hkn : k < nw := by (try simp only [b2_e0, b2_n0, Decidable.not_not] at *) <;> (try simp only [i_lt, i_le, i_eq, not_and, not_or, ne_eq, il_0, il_1, il_2, il_3, il_4, il_5, il_6, il_7, il_8, il_9, il_10, il_14, il_15, il_19, il_20, il_24, il_30, il_31, il_44, il_48, il_49, il_52, il_57, il_59, il_60, il_70, il_99, il_100, il_103, il_108, il_114, il_m1, il_m2, il_m3, il_m4, il_m9, il_m10, il_m100] at *) <;> omega
        have trk : (nI (ρ k)).toInt = (ρ k : Int) := nI_toInt (by have := (hr k hkn).2; omega)
        refine x_aload_n (pc := 10) (i := 0) dX8_canRow_10 rfl rfl ?_
        refine x_getR (pc := 11) hS fX8_64 dX8_canRow_11 rfl rfl ?_
        refine x_iload_n (pc := 14) (i := 2) dX8_canRow_14 rfl rfl ?_
        refine x_aldN (pc := 15) hS dX8_canRow_15 rfl (by (try simp only [b2_e0, b2_n0, Decidable.not_not] at *) <;> (try simp only [i_lt, i_le, i_eq, not_and, not_or, ne_eq, il_0, il_1, il_2, il_3, il_4, il_5, il_6, il_7, il_8, il_9, il_10, il_14, il_15, il_19, il_20, il_24, il_30, il_31, il_44, il_48, il_49, il_52, il_57, il_59, il_60, il_70, il_99, il_100, il_103, il_108, il_114, il_m1, il_m2, il_m3, il_m4, il_m9, il_m10, il_m100] at *) <;> omega) (by decide) ?_
        rw [(hr k hkn).1]
        refine x_aload_n (pc := 16) (i := 0) dX8_canRow_16 rfl rfl ?_
        refine x_getI (pc := 17) hS fX8_92 dX8_canRow_17 rfl rfl ?_
        refine x_icmp_ge (pc := 20) (tgt := 49) dX8_canRow_20 (by decide) (fun h20 => ?_) (fun h20 => ?_)
        · refine x_iinc (pc := 49) (L' := [_, _, _]) dX8_canRow_49 (by decide) rfl (by first | exact nI_inc _ | rfl) rfl ?_
          refine x_goto (pc := 52) (tgt := 2) dX8_canRow_52 (by decide) ?_
          refine ih (k + 1) (by omega) (by omega) ?_
          rw [allN, ha, Bool.true_and]
          first | (rw [(hok k hkn _ hrn).mpr ⟨h30, b2_n0.mp h44⟩, Bool.or_true]) | (have h9 : ¬ ρ k < nb := (by (try simp only [b2_e0, b2_n0, Decidable.not_not] at *) <;> (try simp only [i_lt, i_le, i_eq, not_and, not_or, ne_eq, il_0, il_1, il_2, il_3, il_4, il_5, il_6, il_7, il_8, il_9, il_10, il_14, il_15, il_19, il_20, il_24, il_30, il_31, il_44, il_48, il_49, il_52, il_57, il_59, il_60, il_70, il_99, il_100, il_103, il_108, il_114, il_m1, il_m2, il_m3, il_m4, il_m9, il_m10, il_m100] at *) <;> omega); rw [decide_eq_false h9]; rfl)
        · have hrn : ρ k < nb := by (try simp only [b2_e0, b2_n0, Decidable.not_not] at *) <;> (try simp only [i_lt, i_le, i_eq, not_and, not_or, ne_eq, il_0, il_1, il_2, il_3, il_4, il_5, il_6, il_7, il_8, il_9, il_10, il_14, il_15, il_19, il_20, il_24, il_30, il_31, il_44, il_48, il_49, il_52, il_57, il_59, il_60, il_70, il_99, il_100, il_103, il_108, il_114, il_m1, il_m2, il_m3, il_m4, il_m9, il_m10, il_m100] at *) <;> omega
          refine x_aload_n (pc := 23) (i := 0) dX8_canRow_23 rfl rfl ?_
          refine x_getR (pc := 24) hS fX8_64 dX8_canRow_24 rfl rfl ?_
          refine x_iload_n (pc := 27) (i := 2) dX8_canRow_27 rfl rfl ?_
          refine x_aldN (pc := 28) hS dX8_canRow_28 rfl (by (try simp only [b2_e0, b2_n0, Decidable.not_not] at *) <;> (try simp only [i_lt, i_le, i_eq, not_and, not_or, ne_eq, il_0, il_1, il_2, il_3, il_4, il_5, il_6, il_7, il_8, il_9, il_10, il_14, il_15, il_19, il_20, il_24, il_30, il_31, il_44, il_48, il_49, il_52, il_57, il_59, il_60, il_70, il_99, il_100, il_103, il_108, il_114, il_m1, il_m2, il_m3, il_m4, il_m9, il_m10, il_m100] at *) <;> omega) (by decide) ?_
          rw [(hr k hkn).1]
          refine x_iload_n (pc := 29) (i := 1) dX8_canRow_29 rfl rfl ?_
          refine x_icmp_eq (pc := 30) (tgt := 47) dX8_canRow_30 (by decide) (fun h30 => ?_) (fun h30 => ?_)
          · refine x_iconst (pc := 47) (v := 0) dX8_canRow_47 (by decide) ?_
            refine x_ri (pc := 48) dX8_canRow_48 rfl rfl ?_
            refine ⟨?_, rfl⟩
            rw [b2_f]
            unfold hCan
            rw [Bool.and_eq_true, allN_iff]
            intro z
            have z1 := z.1 k hkn
            rw [decide_eq_true hrn, Bool.not_true, Bool.false_or, hok k hkn _ hrn] at z1
            first | exact z1.1 h30 | exact (b2_e0.mp h44) z1.2
          · refine x_aload_n (pc := 33) (i := 0) dX8_canRow_33 rfl rfl ?_
            refine x_iload_n (pc := 34) (i := 2) dX8_canRow_34 rfl rfl ?_
            refine x_aload_n (pc := 35) (i := 0) dX8_canRow_35 rfl rfl ?_
            refine x_getR (pc := 36) hS fX8_64 dX8_canRow_36 rfl rfl ?_
            refine x_iload_n (pc := 39) (i := 2) dX8_canRow_39 rfl rfl ?_
            refine x_aldN (pc := 40) hS dX8_canRow_40 rfl (by (try simp only [b2_e0, b2_n0, Decidable.not_not] at *) <;> (try simp only [i_lt, i_le, i_eq, not_and, not_or, ne_eq, il_0, il_1, il_2, il_3, il_4, il_5, il_6, il_7, il_8, il_9, il_10, il_14, il_15, il_19, il_20, il_24, il_30, il_31, il_44, il_48, il_49, il_52, il_57, il_59, il_60, il_70, il_99, il_100, il_103, il_108, il_114, il_m1, il_m2, il_m3, il_m4, il_m9, il_m10, il_m100] at *) <;> omega) (by decide) ?_
            rw [(hr k hkn).1]
            refine x_vs (pc := 41) (As := [_, _]) rfl hS lX8_171 dX8_canRow_41 rfl rfl (Nat.le_of_ble_eq_true rfl) (c_X8_mayGo hS (by omega) (by omega) (hpl k (by omega)) (hsi _ (by omega))) ?_
            rintro _ _ ⟨rfl, hq⟩
            obtain rfl := hq.symm
            refine x_pushI ?_
            refine x_if_ne (pc := 44) (tgt := 49) dX8_canRow_44 (by decide) (fun h44 => ?_) (fun h44 => ?_)
            · refine x_iinc (pc := 49) (L' := [_, _, _]) dX8_canRow_49 (by decide) rfl (by first | exact nI_inc _ | rfl) rfl ?_
              refine x_goto (pc := 52) (tgt := 2) dX8_canRow_52 (by decide) ?_
              refine ih (k + 1) (by omega) (by omega) ?_
              rw [allN, ha, Bool.true_and]
              first | (rw [(hok k hkn _ hrn).mpr ⟨h30, b2_n0.mp h44⟩, Bool.or_true]) | (have h9 : ¬ ρ k < nb := (by (try simp only [b2_e0, b2_n0, Decidable.not_not] at *) <;> (try simp only [i_lt, i_le, i_eq, not_and, not_or, ne_eq, il_0, il_1, il_2, il_3, il_4, il_5, il_6, il_7, il_8, il_9, il_10, il_14, il_15, il_19, il_20, il_24, il_30, il_31, il_44, il_48, il_49, il_52, il_57, il_59, il_60, il_70, il_99, il_100, il_103, il_108, il_114, il_m1, il_m2, il_m3, il_m4, il_m9, il_m10, il_m100] at *) <;> omega); rw [decide_eq_false h9]; rfl)
            · refine x_iconst (pc := 47) (v := 0) dX8_canRow_47 (by decide) ?_
              refine x_ri (pc := 48) dX8_canRow_48 rfl rfl ?_
              refine ⟨?_, rfl⟩
              rw [b2_f]
              unfold hCan
              rw [Bool.and_eq_true, allN_iff]
              intro z
              have z1 := z.1 k hkn
              rw [decide_eq_true hrn, Bool.not_true, Bool.false_or, hok k hkn _ hrn] at z1
              first | exact z1.1 h30 | exact (b2_e0.mp h44) z1.2
  refine mC.of (L := [_, _, _]) okX8_canRow 1 rfl rfl ?_
  refine x_iconst (pc := 0) (v := 0) dX8_canRow_0 (by decide) ?_
  refine x_istore_n (pc := 1) (i := 2) (L' := [_, _, _]) dX8_canRow_1 rfl (by decide) rfl ?_
  exact lp (nw + 1) 0 (by omega) (by omega) rfl
-- worlds that differ in a few cells
theorem setA_comm (w : mW) {a b : Nat} (h : a ≠ b) (f g : Nat → Int32) : setA (setA w a f) b g = setA (setA w b g) a f := by
  funext i
  unfold setA
  by_cases e1 : i = a
  · subst e1; simp [h, Ne.symm h]
  · by_cases e2 : i = b
    · subst e2; simp [e1, Ne.symm e1]
    · simp [e1, e2]
theorem setA_setF (w : mW) {a b k : Nat} (h : a ≠ b) (f : Nat → Int32) (x : Int32) : setA (setF w b k x) a f = setF (setA w a f) b k x := by
  funext i
  unfold setA setF
  by_cases e1 : i = a
  · subst e1; simp [h, Ne.symm h]
  · by_cases e2 : i = b
    · subst e2; simp [e1, Ne.symm e1]
    · simp [e1, e2]
theorem setF_comm (w : mW) {a k l : Nat} (h : k ≠ l) (x y : Int32) : setF (setF w a k x) a l y = setF (setF w a l y) a k x := by
  funext i
  unfold setF
  by_cases e1 : i = a
  · subst e1
    simp only [if_true]
    cases hw : w i with
    | inl p => rfl
    | inr o => simp [List.set_comm _ _ h]
  · simp [e1]
theorem setF_self {w : mW} (h : Shape w) {a ci k : Nat} {fs : List (Option Nat)} (hs : mShp[a]? = some (.inr (ci, fs))) (hk : fs[k]? = some none) : setF w a k (fld w a k) = w := by
  obtain ⟨vs, hw, hv⟩ := h.obj hs
  obtain ⟨x, hx⟩ := mShF_int hv hk
  have hf : fld w a k = x := by unfold fld; rw [hw]; simp [hx]
  funext i
  unfold setF
  by_cases e : i = a
  · subst e
    rw [if_pos rfl, hf, hw]
    have e2 : vs.set k (.int x) = vs := by
      apply List.ext_getElem?
      intro j
      by_cases hj : k = j
      · subst hj
        rw [List.getElem?_set_self', hx]; rfl
      · rw [List.getElem?_set_ne hj]
    simp [e2]
  · rw [if_neg e]
def mHW (w : mW) (row hin : Nat → Int32) (mo le : Int32) : mW := setF (setF (setA (setA w 63 row) 64 hin) 44 29 mo) 44 30 le
section
variable {w : mW} {row hin x : Nat → Int32} {mo le y : Int32}
theorem mHW_S (hS : Shape w) : Shape (mHW w row hin mo le) := (((hS.stA 63 _).stA 64 _).stF rfl rfl _).stF rfl rfl _
theorem mHW_63 (hS : Shape w) : arr (mHW w row hin mo le) 63 = row := by unfold mHW; rw [arr_setF, arr_setF, arr_setA_a (by decide), arr_setA hS rfl]
theorem mHW_64 (hS : Shape w) : arr (mHW w row hin mo le) 64 = hin := by unfold mHW; rw [arr_setF, arr_setF, arr_setA (hS.stA _ _) rfl]
theorem mHW_a {a : Nat} (h1 : a ≠ 63) (h2 : a ≠ 64) : arr (mHW w row hin mo le) a = arr w a := by unfold mHW; rw [arr_setF, arr_setF, arr_setA_a h2, arr_setA_a h1]
theorem mHW_29 (hS : Shape w) : fld (mHW w row hin mo le) 44 29 = mo := by unfold mHW; rw [fld_setF_k (by decide), fld_setF ((hS.stA _ _).stA _ _) rfl rfl]
theorem mHW_30 (hS : Shape w) : fld (mHW w row hin mo le) 44 30 = le := by unfold mHW; rw [fld_setF (((hS.stA _ _).stA _ _).stF rfl rfl _) rfl rfl]
theorem mHW_f {k : Nat} (h1 : k ≠ 29) (h2 : k ≠ 30) : fld (mHW w row hin mo le) 44 k = fld w 44 k := by unfold mHW; rw [fld_setF_k h2, fld_setF_k h1, fld_setA, fld_setA]
theorem mHW_s63 : setA (mHW w row hin mo le) 63 x = mHW w x hin mo le := by unfold mHW; rw [setA_setF _ (by decide), setA_setF _ (by decide), setA_comm _ (show (64 : Nat) ≠ 63 by decide), setA_setA]
theorem mHW_s64 : setA (mHW w row hin mo le) 64 x = mHW w row x mo le := by unfold mHW; rw [setA_setF _ (by decide), setA_setF _ (by decide), setA_setA]
theorem mHW_s29 : setF (mHW w row hin mo le) 44 29 y = mHW w row hin y le := by unfold mHW; rw [setF_comm _ (show (30 : Nat) ≠ 29 by decide), setF_setF]
theorem mHW_s30 : setF (mHW w row hin mo le) 44 30 y = mHW w row hin mo y := by unfold mHW; rw [setF_setF]
theorem mHW_self (hS : Shape w) : mHW w (arr w 63) (arr w 64) (fld w 44 29) (fld w 44 30) = w := by
  unfold mHW
  rw [setA_self hS rfl, setA_self hS rfl, setF_self hS rfl rfl, setF_self hS rfl rfl]
end
def hoX (n : Nat) (s : hSt) (mo le : Int32) (be : Nat → Int32) : Prop := match s with
  | none => mo = -9
  | some (c, p, ρ) => mo = nI c ∧ le = nI p ∧ ∀ i, i < n → be i = nI (ρ i)
theorem hoX_A {n : Nat} {s : hSt} {mo le : Int32} {be : Nat → Int32} {c p : Nat} (hx : hoX n s mo le be) (ho : hOK n s) (hn : n ≤ 5) (hc : c ≤ 5) (h1 : ¬ mo < nI c) (h2 : ¬ nI c = mo) : hMore c p s = false := by
  match s, hx, ho with
  | none, hx, _ =>
    have hx : mo = -9 := hx
    rw [hx, i_lt, il_m9, nI_toInt (by omega)] at h1; omega
  | some (c', p', ρ), hx, ho =>
    obtain ⟨e1, e2, -⟩ := hx
    obtain ⟨o1, o2⟩ := ho
    rw [e1, i_lt, nI_toInt (by omega), nI_toInt (by omega)] at h1
    rw [e1, nI_eq (by omega) (by omega)] at h2
    simp [hMore]; omega
theorem hoX_B {n : Nat} {s : hSt} {mo le : Int32} {be : Nat → Int32} {c p : Nat} (hx : hoX n s mo le be) (ho : hOK n s) (hn : n ≤ 5) (hc : c ≤ 5) (hp : p ≤ 100) (h1 : ¬ mo < nI c) (h3 : le ≤ nI p) : hMore c p s = false := by
  match s, hx, ho with
  | none, hx, _ =>
    have hx : mo = -9 := hx
    rw [hx, i_lt, il_m9, nI_toInt (by omega)] at h1; omega
  | some (c', p', ρ), hx, ho =>
    obtain ⟨e1, e2, -⟩ := hx
    obtain ⟨o1, o2⟩ := ho
    rw [e1, i_lt, nI_toInt (by omega), nI_toInt (by omega)] at h1
    rw [e2, i_le, nI_toInt (by omega), nI_toInt (by omega)] at h3
    simp [hMore]; omega
theorem hoX_C {n : Nat} {s : hSt} {mo le : Int32} {be : Nat → Int32} {c p : Nat} (hx : hoX n s mo le be) (ho : hOK n s) (hn : n ≤ 5) (hc : c ≤ 5) (h1 : mo < nI c) : hMore c p s = true := by
  match s, hx, ho with
  | none, hx, _ => rfl
  | some (c', p', ρ), hx, ho =>
    obtain ⟨e1, e2, -⟩ := hx
    obtain ⟨o1, o2⟩ := ho
    rw [e1, i_lt, nI_toInt (by omega), nI_toInt (by omega)] at h1
    simp [hMore]; omega
theorem hoX_D {n : Nat} {s : hSt} {mo le : Int32} {be : Nat → Int32} {c p : Nat} (hx : hoX n s mo le be) (ho : hOK n s) (hn : n ≤ 5) (hc : c ≤ 5) (hp : p ≤ 100) (h1 : nI c = mo) (h3 : nI p < le) : hMore c p s = true := by
  match s, hx, ho with
  | none, hx, _ => rfl
  | some (c', p', ρ), hx, ho =>
    obtain ⟨e1, e2, -⟩ := hx
    obtain ⟨o1, o2⟩ := ho
    rw [e1, nI_eq (by omega) (by omega)] at h1
    rw [e2, i_lt, nI_toInt (by omega), nI_toInt (by omega)] at h3
    simp [hMore]; omega
section
variable {nb n : Nat} {pN H : Nat → Nat} {ok : Nat → Nat → Bool} {ρ : Nat → Nat} {s : hSt}
theorem hF_1 (h : hMore (hCn nb ρ n) (hPr nb pN ρ n) s = false) : hF nb n pN H ok ρ s = s := by unfold hF; rw [if_neg (by rw [h]; simp)]
theorem hF_2 (h : ¬ hCan nb n H ok ρ = true) : hF nb n pN H ok ρ s = s := by unfold hF; rw [if_neg (fun q => h q.2)]
theorem hF_3 (h : hMore (hCn nb ρ n) (hPr nb pN ρ n) s = true) (h2 : hCan nb n H ok ρ = true) : hF nb n pN H ok ρ s = some (hCn nb ρ n, hPr nb pN ρ n, hTr n ρ) := by unfold hF; rw [if_pos ⟨h, h2⟩]
end
def tkI (k : Nat) (r be : Nat → Int32) : Nat → Int32 := fun i => if i < k then r i else be i
theorem tkI_0 {r be : Nat → Int32} : tkI 0 r be = be := by funext i; unfold tkI; rw [if_neg (by omega)]
theorem tkI_s {k : Nat} {r be : Nat → Int32} : upd (tkI k r be) k (r k) = tkI (k + 1) r be := by
  funext i
  unfold upd tkI
  by_cases e : i = k
  · subst e; rw [if_pos rfl, if_pos (show i < i + 1 by omega)]
  · rw [if_neg e]
    by_cases e2 : i < k
    · rw [if_pos e2, if_pos (show i < k + 1 by omega)]
    · rw [if_neg e2, if_neg (show ¬ i < k + 1 by omega)]
theorem rowF_dig {B nw N i : Nat} {old : Nat → Int32} (hi : i < nw) : rowF B nw N 0 old i = nI (digR B nw N i) := by unfold rowF; rw [if_pos (by omega)]; rfl
theorem digR_le {nb nw N i : Nat} : digR (nb + 1) nw N i ≤ nb := Nat.le_of_lt_succ (Nat.mod_lt _ (by omega))
theorem hCn_y {nb : Nat} {ρ : Nat → Nat} {k : Nat} (h : ρ k < nb) : nI (hCn nb ρ k) + 1 = nI (hCn nb ρ (k + 1)) := by rw [hCn_s, if_pos h]; exact nI_1 _
theorem hCn_n {nb : Nat} {ρ : Nat → Nat} {k : Nat} (h : ¬ ρ k < nb) : nI (hCn nb ρ k) + 0 = nI (hCn nb ρ (k + 1)) := by rw [hCn_s, if_neg h, Nat.add_zero]; exact Int32.add_zero _
theorem hPr_y {nb : Nat} {pN ρ : Nat → Nat} {k : Nat} (h : ρ k < nb) : nI (hPr nb pN ρ k) + nI (pN (ρ k)) = nI (hPr nb pN ρ (k + 1)) := by rw [hPr, if_pos h]; exact nI_add _ _
theorem hPr_n {nb : Nat} {pN ρ : Nat → Nat} {k : Nat} (h : ¬ ρ k < nb) : nI (hPr nb pN ρ k) + 0 = nI (hPr nb pN ρ (k + 1)) := by rw [hPr, if_neg h, Nat.add_zero]; exact Int32.add_zero _
theorem c_X8_findHoused {d : Nat} {w : mW} {wo : Int32} {nb nw : Nat} {pN H : Nat → Nat} {ok : Nat → Nat → Bool} (hS0 : Shape w) (tb : (fld w 44 5).toInt = (nb : Int)) (hnb : nb ≤ 5) (tw : (fld w 44 6).toInt = (nw : Int)) (hnw : nw ≤ 5) (hki : ∀ b, b < nb → arr w 48 b = 0 ∨ arr w 48 b = 1 ∨ arr w 48 b = 2) (hH : ∀ b, b < nb → holdsE (arr w 48 b) (arr w 49 b) = nI (H b) ∧ H b ≤ 8) (hpe : ∀ b, b < nb → arr w 50 b = nI (pN b) ∧ pN b ≤ 9) (hpl : ∀ i, i < nw → 0 ≤ (arr w 53 i).toInt ∧ (arr w 53 i).toInt ≤ 9) (hsi : ∀ j, j < nb → 0 ≤ (arr w 51 j).toInt ∧ (arr w 51 j).toInt ≤ 9) (hok : ∀ i, i < nw → ∀ b, b < nb → (ok i b = true ↔ ¬ nI b = wo ∧ suitE (arr w 52) (arr w 53) (arr w 54) (arr w 50) (arr w 51) i b)) : mC (d + 4) kX8_findHoused [.ref 44, .int wo] w (fun r w' => r = none ∧ ∃ row hin mo le, hoX nw (foldN (fun N s => hF nb nw pN H ok (digR (nb + 1) nw N) s) ((nb + 1) ^ nw) none) mo le hin ∧ w' = mHW w row hin mo le) := by
  have hpw := pw_small (nb + 1) (by omega) nw hnw
  have tpw : (nI ((nb + 1) ^ nw)).toInt = (((nb + 1) ^ nw : Nat) : Int) := nI_toInt (by omega)
  have hp9 : ∀ b, b < nb → pN b ≤ 9 := fun b hb => (hpe b hb).2
  have lp : ∀ (m N : Nat) (row hin : Nat → Int32) (mo le : Int32), N ≤ (nb + 1) ^ nw → (nb + 1) ^ nw < N + m → hoX nw (foldN (fun N s => hF nb nw pN H ok (digR (nb + 1) nw N) s) N none) mo le hin → mJ mX0 (d + 4) kX8_findHoused (fun r w' => r = none ∧ ∃ row hin mo le, hoX nw (foldN (fun N s => hF nb nw pN H ok (digR (nb + 1) nw N) s) ((nb + 1) ^ nw) none) mo le hin ∧ w' = mHW w row hin mo le) 8 [.ref 44, .int wo, .int (nI N), .null, .null, .null, .null] [] (mHW w row hin mo le) := by
    intro m
    induction m with
    | zero => intro N row hin mo le h1 h2; omega
    | succ m ih =>
      intro N row hin mo le hN1 hN2 hx
      have tN : (nI N).toInt = (N : Int) := nI_toInt (by omega)
      have ho : hOK nw (foldN (fun N s => hF nb nw pN H ok (digR (nb + 1) nw N) s) N none) := foldN_pres (p := hOK nw) trivial (fun k _ s hs => hF_ok hp9 hs)
      generalize hs : foldN (fun N s => hF nb nw pN H ok (digR (nb + 1) nw N) s) N none = s at hx ho
      have hsn : foldN (fun N s => hF nb nw pN H ok (digR (nb + 1) nw N) s) (N + 1) none = hF nb nw pN H ok (digR (nb + 1) nw N) s := by rw [← hs]; rfl
      generalize hR : rowF (nb + 1) nw N 0 row = R
      have hRi : ∀ i, i < nw → R i = nI (digR (nb + 1) nw N i) := fun i hi => by rw [← hR]; exact rowF_dig hi
      have hdl : ∀ i, digR (nb + 1) nw N i ≤ nb := fun i => digR_le
      generalize digR (nb + 1) nw N = ρ at hsn hRi hdl
      have hcl : ∀ k, k ≤ nw → hCn nb ρ k ≤ 5 := fun k hk => Nat.le_trans hCn_le (by omega)
      have hpl2 : ∀ k, k ≤ nw → hPr nb pN ρ k ≤ 45 := fun k hk => Nat.le_trans (hPr_le hp9) (by omega)
      have lr : N < (nb + 1) ^ nw → hMore (hCn nb ρ nw) (hPr nb pN ρ nw) s = true → hCan nb nw H ok ρ = true → ∀ (q k : Nat), k ≤ nw → nw < k + q → mJ mX0 (d + 4) kX8_findHoused (fun r w' => r = none ∧ ∃ row hin mo le, hoX nw (foldN (fun N s => hF nb nw pN H ok (digR (nb + 1) nw N) s) ((nb + 1) ^ nw) none) mo le hin ∧ w' = mHW w row hin mo le) 160 [.ref 44, .int wo, .int (nI N), .null, .null, .null, .int (nI k)] [] (mHW w R (tkI k R hin) (nI (hCn nb ρ nw)) (nI (hPr nb pN ρ nw))) := by
        intro hNl hmo hca q
        induction q with
        | zero => intro k h1 h2; omega
        | succ q ih2 =>
          intro k hk1 hk2
          have tk : (nI k).toInt = (k : Int) := nI_toInt (by omega)
          have hS : Shape (mHW w R (tkI k R hin) (nI (hCn nb ρ nw)) (nI (hPr nb pN ρ nw))) := mHW_S hS0
          refine x_iload (pc := 160) dX8_findHoused_160 rfl ?_
          refine x_aload_n (pc := 162) (i := 0) dX8_findHoused_162 rfl rfl ?_
          refine x_getI (pc := 163) hS fX8_95 dX8_findHoused_163 rfl rfl ?_
          rw [mHW_f (by decide) (by decide)]
          refine x_icmp_ge (pc := 166) (tgt := 189) dX8_findHoused_166 (by decide) (fun h166 => ?_) (fun h166 => ?_)
          · refine x_iinc (pc := 189) (L' := [_, _, _, _, _, _, _]) dX8_findHoused_189 (by decide) rfl (by first | exact nI_inc _ | rfl) rfl ?_
            refine x_goto (pc := 192) (tgt := 8) dX8_findHoused_192 (by decide) ?_
            refine mJ.weak (wk_v (wk_v (wk_v (wk_n (wk_n (wk_n (wk_n wk_0))))))) (ih (N + 1) _ _ _ _ hNl (by omega) ?_)
            rw [hsn, hF_3 hmo hca]
            exact ⟨rfl, rfl, fun i hi => by unfold tkI hTr; rw [if_pos (show i < k by (try simp only [b2_e0, b2_n0, Decidable.not_not] at *) <;> (try simp only [i_lt, i_le, i_eq, not_and, not_or, ne_eq, il_0, il_1, il_2, il_3, il_4, il_5, il_6, il_7, il_8, il_9, il_10, il_14, il_15, il_19, il_20, il_24, il_30, il_31, il_44, il_48, il_49, il_52, il_57, il_59, il_60, il_70, il_99, il_100, il_103, il_108, il_114, il_m1, il_m2, il_m3, il_m4, il_m9, il_m10, il_m100] at *) <;> omega), if_pos hi]; exact hRi i hi⟩
          · refine x_aload_n (pc := 169) (i := 0) dX8_findHoused_169 rfl rfl ?_
            refine x_getR (pc := 170) hS fX8_67 dX8_findHoused_170 rfl rfl ?_
            refine x_iload (pc := 173) dX8_findHoused_173 rfl ?_
            refine x_aload_n (pc := 175) (i := 0) dX8_findHoused_175 rfl rfl ?_
            refine x_getR (pc := 176) hS fX8_64 dX8_findHoused_176 rfl rfl ?_
            refine x_iload (pc := 179) dX8_findHoused_179 rfl ?_
            refine x_aldN (pc := 181) hS dX8_findHoused_181 rfl (by (try simp only [b2_e0, b2_n0, Decidable.not_not] at *) <;> (try simp only [i_lt, i_le, i_eq, not_and, not_or, ne_eq, il_0, il_1, il_2, il_3, il_4, il_5, il_6, il_7, il_8, il_9, il_10, il_14, il_15, il_19, il_20, il_24, il_30, il_31, il_44, il_48, il_49, il_52, il_57, il_59, il_60, il_70, il_99, il_100, il_103, il_108, il_114, il_m1, il_m2, il_m3, il_m4, il_m9, il_m10, il_m100] at *) <;> omega) (by decide) ?_
            rw [mHW_63 hS0]
            refine x_astN (pc := 182) hS dX8_findHoused_182 rfl (by (try simp only [b2_e0, b2_n0, Decidable.not_not] at *) <;> (try simp only [i_lt, i_le, i_eq, not_and, not_or, ne_eq, il_0, il_1, il_2, il_3, il_4, il_5, il_6, il_7, il_8, il_9, il_10, il_14, il_15, il_19, il_20, il_24, il_30, il_31, il_44, il_48, il_49, il_52, il_57, il_59, il_60, il_70, il_99, il_100, il_103, il_108, il_114, il_m1, il_m2, il_m3, il_m4, il_m9, il_m10, il_m100] at *) <;> omega) (by decide) (fun hS => ?_)
            rw [mHW_64 hS0, mHW_s64, tkI_s]
            refine x_iinc (pc := 183) (L' := [_, _, _, _, _, _, _]) dX8_findHoused_183 (by decide) rfl (by first | exact nI_inc _ | rfl) rfl ?_
            refine x_goto (pc := 186) (tgt := 160) dX8_findHoused_186 (by decide) ?_
            exact ih2 (k + 1) (by (try simp only [b2_e0, b2_n0, Decidable.not_not] at *) <;> (try simp only [i_lt, i_le, i_eq, not_and, not_or, ne_eq, il_0, il_1, il_2, il_3, il_4, il_5, il_6, il_7, il_8, il_9, il_10, il_14, il_15, il_19, il_20, il_24, il_30, il_31, il_44, il_48, il_49, il_52, il_57, il_59, il_60, il_70, il_99, il_100, il_103, il_108, il_114, il_m1, il_m2, il_m3, il_m4, il_m9, il_m10, il_m100] at *) <;> omega) (by omega)
      have lq : N < (nb + 1) ^ nw → ∀ (q k : Nat), k ≤ nw → nw < k + q → mJ mX0 (d + 4) kX8_findHoused (fun r w' => r = none ∧ ∃ row hin mo le, hoX nw (foldN (fun N s => hF nb nw pN H ok (digR (nb + 1) nw N) s) ((nb + 1) ^ nw) none) mo le hin ∧ w' = mHW w row hin mo le) 29 [.ref 44, .int wo, .int (nI N), .int (nI (hCn nb ρ k)), .int (nI (hPr nb pN ρ k)), .int (nI k), .null] [] (mHW w R hin mo le) := by
        intro hNl q
        induction q with
        | zero => intro k h1 h2; omega
        | succ q ih2 =>
          intro k hk1 hk2
          have tk : (nI k).toInt = (k : Int) := nI_toInt (by omega)
          have hS : Shape (mHW w R hin mo le) := mHW_S hS0
          have tb' : (fld (mHW w R hin mo le) 44 5).toInt = (nb : Int) := by rw [mHW_f (by decide) (by decide)]; exact tb
          have tw' : (fld (mHW w R hin mo le) 44 6).toInt = (nw : Int) := by rw [mHW_f (by decide) (by decide)]; exact tw
          have hA : ∀ a, a ≠ 63 → a ≠ 64 → arr (mHW w R hin mo le) a = arr w a := fun a h1 h2 => mHW_a h1 h2
          refine x_iload (pc := 29) dX8_findHoused_29 rfl ?_
          refine x_aload_n (pc := 31) (i := 0) dX8_findHoused_31 rfl rfl ?_
          refine x_getI (pc := 32) hS fX8_95 dX8_findHoused_32 rfl rfl ?_
          refine x_icmp_ge (pc := 35) (tgt := 101) dX8_findHoused_35 (by decide) (fun h35 => ?_) (fun h35 => ?_)
          · have hkn : k = nw := by (try simp only [b2_e0, b2_n0, Decidable.not_not] at *) <;> (try simp only [i_lt, i_le, i_eq, not_and, not_or, ne_eq, il_0, il_1, il_2, il_3, il_4, il_5, il_6, il_7, il_8, il_9, il_10, il_14, il_15, il_19, il_20, il_24, il_30, il_31, il_44, il_48, il_49, il_52, il_57, il_59, il_60, il_70, il_99, il_100, il_103, il_108, il_114, il_m1, il_m2, il_m3, il_m4, il_m9, il_m10, il_m100] at *) <;> omega
            subst hkn
            refine x_iload_n (pc := 101) (i := 3) dX8_findHoused_101 rfl rfl ?_
            refine x_aload_n (pc := 102) (i := 0) dX8_findHoused_102 rfl rfl ?_
            refine x_getI (pc := 103) hS fX8_212 dX8_findHoused_103 rfl rfl ?_
            rw [mHW_29 hS0]
            refine x_icmp_gt (pc := 106) (tgt := 126) dX8_findHoused_106 (by decide) (fun h106 => ?_) (fun h106 => ?_)
            · refine x_iconst (pc := 126) (v := 1) dX8_findHoused_126 (by decide) ?_
              refine x_goto (pc := 127) (tgt := 131) dX8_findHoused_127 (by decide) ?_
              refine x_istore (pc := 131) (L' := [_, _, _, _, _, _, _]) dX8_findHoused_131 (by decide) rfl ?_
              refine x_iload (pc := 133) dX8_findHoused_133 rfl ?_
              refine x_if_eq (pc := 135) (tgt := 189) dX8_findHoused_135 (by decide) (fun h135 => absurd h135 (by decide)) (fun _ => ?_)
              refine x_aload_n (pc := 138) (i := 0) dX8_findHoused_138 rfl rfl ?_
              refine x_iload_n (pc := 139) (i := 1) dX8_findHoused_139 rfl rfl ?_
              refine x_vs (pc := 140) (As := [_]) rfl hS lX8_225 dX8_findHoused_140 rfl rfl (Nat.le_of_ble_eq_true rfl) (c_X8_canRow (H := H) (ρ := ρ) (ok := ok) hS tb' hnb tw' hnw (by rw [hA 48 (by decide) (by decide)]; exact hki) (by rw [hA 48 (by decide) (by decide), hA 49 (by decide) (by decide)]; exact hH) (by rw [mHW_63 hS0]; exact fun i hi => ⟨hRi i hi, hdl i⟩) (by rw [hA 53 (by decide) (by decide)]; exact hpl) (by rw [hA 51 (by decide) (by decide)]; exact hsi) (by rw [hA 50 (by decide) (by decide), hA 51 (by decide) (by decide), hA 52 (by decide) (by decide), hA 53 (by decide) (by decide), hA 54 (by decide) (by decide)]; exact hok)) ?_
              rintro _ _ ⟨rfl, hq⟩
              obtain rfl := hq.symm
              refine x_pushI ?_
              refine x_if_eq (pc := 143) (tgt := 189) dX8_findHoused_143 (by decide) (fun h143 => ?_) (fun h143 => ?_)
              · refine x_iinc (pc := 189) (L' := [_, _, _, _, _, _, _]) dX8_findHoused_189 (by decide) rfl (by first | exact nI_inc _ | rfl) rfl ?_
                refine x_goto (pc := 192) (tgt := 8) dX8_findHoused_192 (by decide) ?_
                refine mJ.weak (wk_v (wk_v (wk_v (wk_n (wk_n (wk_n (wk_n wk_0))))))) (ih (N + 1) _ _ _ _ hNl (by omega) ?_)
                rw [hsn]
                first | (rw [hF_2 (b2_e0.mp h143)]; exact hx) | (rw [hF_1 (hoX_A hx ho hnw (hcl k (Nat.le_refl k)) h106 h114)]; exact hx) | (rw [hF_1 (hoX_B hx ho hnw (hcl k (Nat.le_refl k)) (Nat.le_trans (hpl2 k (Nat.le_refl k)) (by omega)) h106 h123)]; exact hx)
              · refine x_aload_n (pc := 146) (i := 0) dX8_findHoused_146 rfl rfl ?_
                refine x_iload_n (pc := 147) (i := 3) dX8_findHoused_147 rfl rfl ?_
                refine x_putI (pc := 148) hS fX8_212 dX8_findHoused_148 rfl rfl rfl rfl (fun hS => ?_)
                rw [mHW_s29]
                have hS : Shape (mHW w R hin (nI (hCn nb ρ k)) le) := mHW_S hS0
                refine x_aload_n (pc := 151) (i := 0) dX8_findHoused_151 rfl rfl ?_
                refine x_iload (pc := 152) dX8_findHoused_152 rfl ?_
                refine x_putI (pc := 154) hS fX8_222 dX8_findHoused_154 rfl rfl rfl rfl (fun hS => ?_)
                rw [mHW_s30]
                refine x_iconst (pc := 157) (v := 0) dX8_findHoused_157 (by decide) ?_
                refine x_istore (pc := 158) (L' := [_, _, _, _, _, _, _]) dX8_findHoused_158 (by decide) rfl ?_
                refine mJ.weak (wk_v (wk_v (wk_v (wk_n (wk_n (wk_n (wk_v wk_0))))))) ?_
                have h9 := lr hNl (by first | exact hoX_C hx ho hnw (hcl k (Nat.le_refl k)) h106 | exact hoX_D hx ho hnw (hcl k (Nat.le_refl k)) (Nat.le_trans (hpl2 k (Nat.le_refl k)) (by omega)) h114 (Int32.not_le.mp h123)) (b2_n0.mp h143) (k + 1) 0 (by omega) (by omega)
                rw [tkI_0] at h9
                exact h9
            · refine x_iload_n (pc := 109) (i := 3) dX8_findHoused_109 rfl rfl ?_
              refine x_aload_n (pc := 110) (i := 0) dX8_findHoused_110 rfl rfl ?_
              refine x_getI (pc := 111) hS fX8_212 dX8_findHoused_111 rfl rfl ?_
              rw [mHW_29 hS0]
              refine x_icmp_ne (pc := 114) (tgt := 130) dX8_findHoused_114 (by decide) (fun h114 => ?_) (fun h114 => ?_)
              · refine x_iconst (pc := 130) (v := 0) dX8_findHoused_130 (by decide) ?_
                refine x_istore (pc := 131) (L' := [_, _, _, _, _, _, _]) dX8_findHoused_131 (by decide) rfl ?_
                refine x_iload (pc := 133) dX8_findHoused_133 rfl ?_
                refine x_if_eq (pc := 135) (tgt := 189) dX8_findHoused_135 (by decide) (fun _ => ?_) (fun h135 => absurd h135 (by decide))
                refine x_iinc (pc := 189) (L' := [_, _, _, _, _, _, _]) dX8_findHoused_189 (by decide) rfl (by first | exact nI_inc _ | rfl) rfl ?_
                refine x_goto (pc := 192) (tgt := 8) dX8_findHoused_192 (by decide) ?_
                refine mJ.weak (wk_v (wk_v (wk_v (wk_n (wk_n (wk_n (wk_n wk_0))))))) (ih (N + 1) _ _ _ _ hNl (by omega) ?_)
                rw [hsn]
                first | (rw [hF_2 (b2_e0.mp h143)]; exact hx) | (rw [hF_1 (hoX_A hx ho hnw (hcl k (Nat.le_refl k)) h106 h114)]; exact hx) | (rw [hF_1 (hoX_B hx ho hnw (hcl k (Nat.le_refl k)) (Nat.le_trans (hpl2 k (Nat.le_refl k)) (by omega)) h106 h123)]; exact hx)
              · refine x_iload (pc := 117) dX8_findHoused_117 rfl ?_
                refine x_aload_n (pc := 119) (i := 0) dX8_findHoused_119 rfl rfl ?_
                refine x_getI (pc := 120) hS fX8_222 dX8_findHoused_120 rfl rfl ?_
                rw [mHW_30 hS0]
                refine x_icmp_ge (pc := 123) (tgt := 130) dX8_findHoused_123 (by decide) (fun h123 => ?_) (fun h123 => ?_)
                · refine x_iconst (pc := 130) (v := 0) dX8_findHoused_130 (by decide) ?_
                  refine x_istore (pc := 131) (L' := [_, _, _, _, _, _, _]) dX8_findHoused_131 (by decide) rfl ?_
                  refine x_iload (pc := 133) dX8_findHoused_133 rfl ?_
                  refine x_if_eq (pc := 135) (tgt := 189) dX8_findHoused_135 (by decide) (fun _ => ?_) (fun h135 => absurd h135 (by decide))
                  refine x_iinc (pc := 189) (L' := [_, _, _, _, _, _, _]) dX8_findHoused_189 (by decide) rfl (by first | exact nI_inc _ | rfl) rfl ?_
                  refine x_goto (pc := 192) (tgt := 8) dX8_findHoused_192 (by decide) ?_
                  refine mJ.weak (wk_v (wk_v (wk_v (wk_n (wk_n (wk_n (wk_n wk_0))))))) (ih (N + 1) _ _ _ _ hNl (by omega) ?_)
                  rw [hsn]
                  first | (rw [hF_2 (b2_e0.mp h143)]; exact hx) | (rw [hF_1 (hoX_A hx ho hnw (hcl k (Nat.le_refl k)) h106 h114)]; exact hx) | (rw [hF_1 (hoX_B hx ho hnw (hcl k (Nat.le_refl k)) (Nat.le_trans (hpl2 k (Nat.le_refl k)) (by omega)) h106 h123)]; exact hx)
                · refine x_iconst (pc := 126) (v := 1) dX8_findHoused_126 (by decide) ?_
                  refine x_goto (pc := 127) (tgt := 131) dX8_findHoused_127 (by decide) ?_
                  refine x_istore (pc := 131) (L' := [_, _, _, _, _, _, _]) dX8_findHoused_131 (by decide) rfl ?_
                  refine x_iload (pc := 133) dX8_findHoused_133 rfl ?_
                  refine x_if_eq (pc := 135) (tgt := 189) dX8_findHoused_135 (by decide) (fun h135 => absurd h135 (by decide)) (fun _ => ?_)
                  refine x_aload_n (pc := 138) (i := 0) dX8_findHoused_138 rfl rfl ?_
                  refine x_iload_n (pc := 139) (i := 1) dX8_findHoused_139 rfl rfl ?_
                  refine x_vs (pc := 140) (As := [_]) rfl hS lX8_225 dX8_findHoused_140 rfl rfl (Nat.le_of_ble_eq_true rfl) (c_X8_canRow (H := H) (ρ := ρ) (ok := ok) hS tb' hnb tw' hnw (by rw [hA 48 (by decide) (by decide)]; exact hki) (by rw [hA 48 (by decide) (by decide), hA 49 (by decide) (by decide)]; exact hH) (by rw [mHW_63 hS0]; exact fun i hi => ⟨hRi i hi, hdl i⟩) (by rw [hA 53 (by decide) (by decide)]; exact hpl) (by rw [hA 51 (by decide) (by decide)]; exact hsi) (by rw [hA 50 (by decide) (by decide), hA 51 (by decide) (by decide), hA 52 (by decide) (by decide), hA 53 (by decide) (by decide), hA 54 (by decide) (by decide)]; exact hok)) ?_
                  rintro _ _ ⟨rfl, hq⟩
                  obtain rfl := hq.symm
                  refine x_pushI ?_
                  refine x_if_eq (pc := 143) (tgt := 189) dX8_findHoused_143 (by decide) (fun h143 => ?_) (fun h143 => ?_)
                  · refine x_iinc (pc := 189) (L' := [_, _, _, _, _, _, _]) dX8_findHoused_189 (by decide) rfl (by first | exact nI_inc _ | rfl) rfl ?_
                    refine x_goto (pc := 192) (tgt := 8) dX8_findHoused_192 (by decide) ?_
                    refine mJ.weak (wk_v (wk_v (wk_v (wk_n (wk_n (wk_n (wk_n wk_0))))))) (ih (N + 1) _ _ _ _ hNl (by omega) ?_)
                    rw [hsn]
                    first | (rw [hF_2 (b2_e0.mp h143)]; exact hx) | (rw [hF_1 (hoX_A hx ho hnw (hcl k (Nat.le_refl k)) h106 h114)]; exact hx) | (rw [hF_1 (hoX_B hx ho hnw (hcl k (Nat.le_refl k)) (Nat.le_trans (hpl2 k (Nat.le_refl k)) (by omega)) h106 h123)]; exact hx)
                  · refine x_aload_n (pc := 146) (i := 0) dX8_findHoused_146 rfl rfl ?_
                    refine x_iload_n (pc := 147) (i := 3) dX8_findHoused_147 rfl rfl ?_
                    refine x_putI (pc := 148) hS fX8_212 dX8_findHoused_148 rfl rfl rfl rfl (fun hS => ?_)
                    rw [mHW_s29]
                    have hS : Shape (mHW w R hin (nI (hCn nb ρ k)) le) := mHW_S hS0
                    refine x_aload_n (pc := 151) (i := 0) dX8_findHoused_151 rfl rfl ?_
                    refine x_iload (pc := 152) dX8_findHoused_152 rfl ?_
                    refine x_putI (pc := 154) hS fX8_222 dX8_findHoused_154 rfl rfl rfl rfl (fun hS => ?_)
                    rw [mHW_s30]
                    refine x_iconst (pc := 157) (v := 0) dX8_findHoused_157 (by decide) ?_
                    refine x_istore (pc := 158) (L' := [_, _, _, _, _, _, _]) dX8_findHoused_158 (by decide) rfl ?_
                    refine mJ.weak (wk_v (wk_v (wk_v (wk_n (wk_n (wk_n (wk_v wk_0))))))) ?_
                    have h9 := lr hNl (by first | exact hoX_C hx ho hnw (hcl k (Nat.le_refl k)) h106 | exact hoX_D hx ho hnw (hcl k (Nat.le_refl k)) (Nat.le_trans (hpl2 k (Nat.le_refl k)) (by omega)) h114 (Int32.not_le.mp h123)) (b2_n0.mp h143) (k + 1) 0 (by omega) (by omega)
                    rw [tkI_0] at h9
                    exact h9
          · have hkn : k < nw := by (try simp only [b2_e0, b2_n0, Decidable.not_not] at *) <;> (try simp only [i_lt, i_le, i_eq, not_and, not_or, ne_eq, il_0, il_1, il_2, il_3, il_4, il_5, il_6, il_7, il_8, il_9, il_10, il_14, il_15, il_19, il_20, il_24, il_30, il_31, il_44, il_48, il_49, il_52, il_57, il_59, il_60, il_70, il_99, il_100, il_103, il_108, il_114, il_m1, il_m2, il_m3, il_m4, il_m9, il_m10, il_m100] at *) <;> omega
            have trk : (nI (ρ k)).toInt = (ρ k : Int) := nI_toInt (by have := hdl k; omega)
            refine x_iload_n (pc := 38) (i := 3) dX8_findHoused_38 rfl rfl ?_
            refine x_aload_n (pc := 39) (i := 0) dX8_findHoused_39 rfl rfl ?_
            refine x_getR (pc := 40) hS fX8_64 dX8_findHoused_40 rfl rfl ?_
            refine x_iload (pc := 43) dX8_findHoused_43 rfl ?_
            refine x_aldN (pc := 45) hS dX8_findHoused_45 rfl (by omega) (by decide) ?_
            rw [mHW_63 hS0, hRi k hkn]
            refine x_aload_n (pc := 46) (i := 0) dX8_findHoused_46 rfl rfl ?_
            refine x_getI (pc := 47) hS fX8_92 dX8_findHoused_47 rfl rfl ?_
            refine x_icmp_ge (pc := 50) (tgt := 57) dX8_findHoused_50 (by decide) (fun h50 => ?_) (fun h50 => ?_)
            · have hrn : ¬ ρ k < nb := by (try simp only [b2_e0, b2_n0, Decidable.not_not] at *) <;> (try simp only [i_lt, i_le, i_eq, not_and, not_or, ne_eq, il_0, il_1, il_2, il_3, il_4, il_5, il_6, il_7, il_8, il_9, il_10, il_14, il_15, il_19, il_20, il_24, il_30, il_31, il_44, il_48, il_49, il_52, il_57, il_59, il_60, il_70, il_99, il_100, il_103, il_108, il_114, il_m1, il_m2, il_m3, il_m4, il_m9, il_m10, il_m100] at *) <;> omega
              refine x_iconst (pc := 57) (v := 0) dX8_findHoused_57 (by decide) ?_
              refine x_iadd (pc := 58) dX8_findHoused_58 ?_
              first | rw [hCn_y hrn] | rw [hCn_n hrn]
              refine x_istore_n (pc := 59) (i := 3) (L' := [_, _, _, _, _, _, _]) dX8_findHoused_59 rfl (by decide) rfl ?_
              refine x_iload (pc := 60) dX8_findHoused_60 rfl ?_
              refine x_aload_n (pc := 62) (i := 0) dX8_findHoused_62 rfl rfl ?_
              refine x_getR (pc := 63) hS fX8_64 dX8_findHoused_63 rfl rfl ?_
              refine x_iload (pc := 66) dX8_findHoused_66 rfl ?_
              refine x_aldN (pc := 68) hS dX8_findHoused_68 rfl (by omega) (by decide) ?_
              rw [mHW_63 hS0, hRi k hkn]
              refine x_aload_n (pc := 69) (i := 0) dX8_findHoused_69 rfl rfl ?_
              refine x_getI (pc := 70) hS fX8_92 dX8_findHoused_70 rfl rfl ?_
              refine x_icmp_ge (pc := 73) (tgt := 91) dX8_findHoused_73 (by decide) (fun h73 => ?_) (fun h73 => ?_)
              · have hrn : ¬ ρ k < nb := by (try simp only [b2_e0, b2_n0, Decidable.not_not] at *) <;> (try simp only [i_lt, i_le, i_eq, not_and, not_or, ne_eq, il_0, il_1, il_2, il_3, il_4, il_5, il_6, il_7, il_8, il_9, il_10, il_14, il_15, il_19, il_20, il_24, il_30, il_31, il_44, il_48, il_49, il_52, il_57, il_59, il_60, il_70, il_99, il_100, il_103, il_108, il_114, il_m1, il_m2, il_m3, il_m4, il_m9, il_m10, il_m100] at *) <;> omega
                refine x_iconst (pc := 91) (v := 0) dX8_findHoused_91 (by decide) ?_
                refine x_iadd (pc := 92) dX8_findHoused_92 ?_
                first | rw [hPr_y hrn] | rw [hPr_n hrn]
                refine x_istore (pc := 93) (L' := [_, _, _, _, _, _, _]) dX8_findHoused_93 (by decide) rfl ?_
                refine x_iinc (pc := 95) (L' := [_, _, _, _, _, _, _]) dX8_findHoused_95 (by decide) rfl (by first | exact nI_inc _ | rfl) rfl ?_
                refine x_goto (pc := 98) (tgt := 29) dX8_findHoused_98 (by decide) ?_
                exact ih2 (k + 1) (by omega) (by omega)
              · have hrn : ρ k < nb := by (try simp only [b2_e0, b2_n0, Decidable.not_not] at *) <;> (try simp only [i_lt, i_le, i_eq, not_and, not_or, ne_eq, il_0, il_1, il_2, il_3, il_4, il_5, il_6, il_7, il_8, il_9, il_10, il_14, il_15, il_19, il_20, il_24, il_30, il_31, il_44, il_48, il_49, il_52, il_57, il_59, il_60, il_70, il_99, il_100, il_103, il_108, il_114, il_m1, il_m2, il_m3, il_m4, il_m9, il_m10, il_m100] at *) <;> omega
                refine x_aload_n (pc := 76) (i := 0) dX8_findHoused_76 rfl rfl ?_
                refine x_getR (pc := 77) hS fX8_25 dX8_findHoused_77 rfl rfl ?_
                refine x_aload_n (pc := 80) (i := 0) dX8_findHoused_80 rfl rfl ?_
                refine x_getR (pc := 81) hS fX8_64 dX8_findHoused_81 rfl rfl ?_
                refine x_iload (pc := 84) dX8_findHoused_84 rfl ?_
                refine x_aldN (pc := 86) hS dX8_findHoused_86 rfl (by omega) (by decide) ?_
                rw [mHW_63 hS0, hRi k hkn]
                refine x_aldN (pc := 87) hS dX8_findHoused_87 rfl (by omega) (by decide) ?_
                rw [hA 50 (by decide) (by decide), (hpe _ hrn).1]
                refine x_goto (pc := 88) (tgt := 92) dX8_findHoused_88 (by decide) ?_
                refine x_iadd (pc := 92) dX8_findHoused_92 ?_
                first | rw [hPr_y hrn] | rw [hPr_n hrn]
                refine x_istore (pc := 93) (L' := [_, _, _, _, _, _, _]) dX8_findHoused_93 (by decide) rfl ?_
                refine x_iinc (pc := 95) (L' := [_, _, _, _, _, _, _]) dX8_findHoused_95 (by decide) rfl (by first | exact nI_inc _ | rfl) rfl ?_
                refine x_goto (pc := 98) (tgt := 29) dX8_findHoused_98 (by decide) ?_
                exact ih2 (k + 1) (by omega) (by omega)
            · have hrn : ρ k < nb := by (try simp only [b2_e0, b2_n0, Decidable.not_not] at *) <;> (try simp only [i_lt, i_le, i_eq, not_and, not_or, ne_eq, il_0, il_1, il_2, il_3, il_4, il_5, il_6, il_7, il_8, il_9, il_10, il_14, il_15, il_19, il_20, il_24, il_30, il_31, il_44, il_48, il_49, il_52, il_57, il_59, il_60, il_70, il_99, il_100, il_103, il_108, il_114, il_m1, il_m2, il_m3, il_m4, il_m9, il_m10, il_m100] at *) <;> omega
              refine x_iconst (pc := 53) (v := 1) dX8_findHoused_53 (by decide) ?_
              refine x_goto (pc := 54) (tgt := 58) dX8_findHoused_54 (by decide) ?_
              refine x_iadd (pc := 58) dX8_findHoused_58 ?_
              first | rw [hCn_y hrn] | rw [hCn_n hrn]
              refine x_istore_n (pc := 59) (i := 3) (L' := [_, _, _, _, _, _, _]) dX8_findHoused_59 rfl (by decide) rfl ?_
              refine x_iload (pc := 60) dX8_findHoused_60 rfl ?_
              refine x_aload_n (pc := 62) (i := 0) dX8_findHoused_62 rfl rfl ?_
              refine x_getR (pc := 63) hS fX8_64 dX8_findHoused_63 rfl rfl ?_
              refine x_iload (pc := 66) dX8_findHoused_66 rfl ?_
              refine x_aldN (pc := 68) hS dX8_findHoused_68 rfl (by omega) (by decide) ?_
              rw [mHW_63 hS0, hRi k hkn]
              refine x_aload_n (pc := 69) (i := 0) dX8_findHoused_69 rfl rfl ?_
              refine x_getI (pc := 70) hS fX8_92 dX8_findHoused_70 rfl rfl ?_
              refine x_icmp_ge (pc := 73) (tgt := 91) dX8_findHoused_73 (by decide) (fun h73 => ?_) (fun h73 => ?_)
              · have hrn : ¬ ρ k < nb := by (try simp only [b2_e0, b2_n0, Decidable.not_not] at *) <;> (try simp only [i_lt, i_le, i_eq, not_and, not_or, ne_eq, il_0, il_1, il_2, il_3, il_4, il_5, il_6, il_7, il_8, il_9, il_10, il_14, il_15, il_19, il_20, il_24, il_30, il_31, il_44, il_48, il_49, il_52, il_57, il_59, il_60, il_70, il_99, il_100, il_103, il_108, il_114, il_m1, il_m2, il_m3, il_m4, il_m9, il_m10, il_m100] at *) <;> omega
                refine x_iconst (pc := 91) (v := 0) dX8_findHoused_91 (by decide) ?_
                refine x_iadd (pc := 92) dX8_findHoused_92 ?_
                first | rw [hPr_y hrn] | rw [hPr_n hrn]
                refine x_istore (pc := 93) (L' := [_, _, _, _, _, _, _]) dX8_findHoused_93 (by decide) rfl ?_
                refine x_iinc (pc := 95) (L' := [_, _, _, _, _, _, _]) dX8_findHoused_95 (by decide) rfl (by first | exact nI_inc _ | rfl) rfl ?_
                refine x_goto (pc := 98) (tgt := 29) dX8_findHoused_98 (by decide) ?_
                exact ih2 (k + 1) (by omega) (by omega)
              · have hrn : ρ k < nb := by (try simp only [b2_e0, b2_n0, Decidable.not_not] at *) <;> (try simp only [i_lt, i_le, i_eq, not_and, not_or, ne_eq, il_0, il_1, il_2, il_3, il_4, il_5, il_6, il_7, il_8, il_9, il_10, il_14, il_15, il_19, il_20, il_24, il_30, il_31, il_44, il_48, il_49, il_52, il_57, il_59, il_60, il_70, il_99, il_100, il_103, il_108, il_114, il_m1, il_m2, il_m3, il_m4, il_m9, il_m10, il_m100] at *) <;> omega
                refine x_aload_n (pc := 76) (i := 0) dX8_findHoused_76 rfl rfl ?_
                refine x_getR (pc := 77) hS fX8_25 dX8_findHoused_77 rfl rfl ?_
                refine x_aload_n (pc := 80) (i := 0) dX8_findHoused_80 rfl rfl ?_
                refine x_getR (pc := 81) hS fX8_64 dX8_findHoused_81 rfl rfl ?_
                refine x_iload (pc := 84) dX8_findHoused_84 rfl ?_
                refine x_aldN (pc := 86) hS dX8_findHoused_86 rfl (by omega) (by decide) ?_
                rw [mHW_63 hS0, hRi k hkn]
                refine x_aldN (pc := 87) hS dX8_findHoused_87 rfl (by omega) (by decide) ?_
                rw [hA 50 (by decide) (by decide), (hpe _ hrn).1]
                refine x_goto (pc := 88) (tgt := 92) dX8_findHoused_88 (by decide) ?_
                refine x_iadd (pc := 92) dX8_findHoused_92 ?_
                first | rw [hPr_y hrn] | rw [hPr_n hrn]
                refine x_istore (pc := 93) (L' := [_, _, _, _, _, _, _]) dX8_findHoused_93 (by decide) rfl ?_
                refine x_iinc (pc := 95) (L' := [_, _, _, _, _, _, _]) dX8_findHoused_95 (by decide) rfl (by first | exact nI_inc _ | rfl) rfl ?_
                refine x_goto (pc := 98) (tgt := 29) dX8_findHoused_98 (by decide) ?_
                exact ih2 (k + 1) (by omega) (by omega)
      have hS : Shape (mHW w row hin mo le) := mHW_S hS0
      have tb' : (fld (mHW w row hin mo le) 44 5).toInt = (nb : Int) := by rw [mHW_f (by decide) (by decide)]; exact tb
      have tw' : (fld (mHW w row hin mo le) 44 6).toInt = (nw : Int) := by rw [mHW_f (by decide) (by decide)]; exact tw
      refine x_iload_n (pc := 8) (i := 2) dX8_findHoused_8 rfl rfl ?_
      refine x_aload_n (pc := 9) (i := 0) dX8_findHoused_9 rfl rfl ?_
      refine x_vs (pc := 10) (As := []) rfl hS lX8_215 dX8_findHoused_10 rfl rfl (Nat.le_of_ble_eq_true rfl) (c_X8_rowsOf hS tb' hnb tw' hnw) ?_
      rintro _ _ ⟨rfl, hq⟩
      obtain rfl := hq.symm
      refine x_pushI ?_
      refine x_icmp_ge (pc := 13) (tgt := 195) dX8_findHoused_13 (by decide) (fun h13 => ?_) (fun h13 => ?_)
      · refine x_rv (pc := 195) dX8_findHoused_195 rfl ?_
        exact ⟨rfl, row, hin, mo, le, by rw [show (nb + 1) ^ nw = N by (try simp only [b2_e0, b2_n0, Decidable.not_not] at *) <;> (try simp only [i_lt, i_le, i_eq, not_and, not_or, ne_eq, il_0, il_1, il_2, il_3, il_4, il_5, il_6, il_7, il_8, il_9, il_10, il_14, il_15, il_19, il_20, il_24, il_30, il_31, il_44, il_48, il_49, il_52, il_57, il_59, il_60, il_70, il_99, il_100, il_103, il_108, il_114, il_m1, il_m2, il_m3, il_m4, il_m9, il_m10, il_m100] at *) <;> omega, hs]; exact hx, rfl⟩
      · refine x_aload_n (pc := 16) (i := 0) dX8_findHoused_16 rfl rfl ?_
        refine x_iload_n (pc := 17) (i := 2) dX8_findHoused_17 rfl rfl ?_
        refine x_vs (pc := 18) (As := [_]) rfl hS lX8_218 dX8_findHoused_18 rfl rfl (Nat.le_of_ble_eq_true rfl) (c_X8_rowOf hS tb' hnb tw' hnw (by omega)) ?_
        rintro _ _ ⟨rfl, hq⟩
        rw [mHW_63 hS0, hR, mHW_s63] at hq
        obtain rfl := hq.symm
        refine x_pushV ?_
        refine x_iconst (pc := 21) (v := 0) dX8_findHoused_21 (by decide) ?_
        refine x_istore_n (pc := 22) (i := 3) (L' := [_, _, _, _, _, _, _]) dX8_findHoused_22 rfl (by decide) rfl ?_
        refine x_iconst (pc := 23) (v := 0) dX8_findHoused_23 (by decide) ?_
        refine x_istore (pc := 24) (L' := [_, _, _, _, _, _, _]) dX8_findHoused_24 (by decide) rfl ?_
        refine x_iconst (pc := 26) (v := 0) dX8_findHoused_26 (by decide) ?_
        refine x_istore (pc := 27) (L' := [_, _, _, _, _, _, _]) dX8_findHoused_27 (by decide) rfl ?_
        exact lq (by (try simp only [b2_e0, b2_n0, Decidable.not_not] at *) <;> (try simp only [i_lt, i_le, i_eq, not_and, not_or, ne_eq, il_0, il_1, il_2, il_3, il_4, il_5, il_6, il_7, il_8, il_9, il_10, il_14, il_15, il_19, il_20, il_24, il_30, il_31, il_44, il_48, il_49, il_52, il_57, il_59, il_60, il_70, il_99, il_100, il_103, il_108, il_114, il_m1, il_m2, il_m3, il_m4, il_m9, il_m10, il_m100] at *) <;> omega) (nw + 1) 0 (by omega) (by omega)
  have hS := hS0
  refine mC.of (L := [_, _, _, _, _, _, _]) okX8_findHoused 5 rfl rfl ?_
  refine x_aload_n (pc := 0) (i := 0) dX8_findHoused_0 rfl rfl ?_
  refine x_bipush (pc := 1) (v := (-9)) dX8_findHoused_1 (by decide) ?_
  refine x_putI (pc := 3) hS fX8_212 dX8_findHoused_3 rfl rfl rfl rfl (fun hS => ?_)
  rw [show setF w 44 29 (-9) = mHW w (arr w 63) (arr w 64) (-9) (fld w 44 30) from by rw [← mHW_s29 (mo := fld w 44 29), mHW_self hS0]]
  refine x_iconst (pc := 6) (v := 0) dX8_findHoused_6 (by decide) ?_
  refine x_istore_n (pc := 7) (i := 2) (L' := [_, _, _, _, _, _, _]) dX8_findHoused_7 rfl (by decide) rfl ?_
  exact lp ((nb + 1) ^ nw + 1) 0 _ _ _ _ (by omega) (by omega) rfl

