-- copy: the reference
theorem cp_0 {f : Nat → Int32} {a b : Nat} : va_cpy f f a b 0 = f := by
  funext j; unfold va_cpy; rw [if_neg (by omega)]
theorem cp_f {f : Nat → Int32} {S D q : Nat} : upd (va_cpy f f S D q) (D + q) (f (S + q)) = va_cpy f f S D (q + 1) := by
  funext j
  unfold upd va_cpy
  by_cases h : j = D + q
  · rw [if_pos h, if_pos (by omega), h, Nat.add_sub_cancel_left]
  · rw [if_neg h]
    by_cases h2 : D ≤ j ∧ j < D + q
    · rw [if_pos h2, if_pos (by omega)]
    · rw [if_neg h2, if_neg (by omega)]
theorem cp_b {f : Nat → Int32} {S D n q : Nat} (hq : q < n) : upd (va_cpy f f (S + (n - q)) (D + (n - q)) q) (D + (n - 1 - q)) (f (S + (n - 1 - q))) = va_cpy f f (S + (n - (q + 1))) (D + (n - (q + 1))) (q + 1) := by
  funext j
  unfold upd va_cpy
  by_cases h : j = D + (n - 1 - q)
  · rw [if_pos h, if_pos (by omega)]
    congr 1; omega
  · rw [if_neg h]
    by_cases h2 : D + (n - q) ≤ j ∧ j < D + (n - q) + q
    · rw [if_pos h2, if_pos (by omega)]
      congr 1; omega
    · rw [if_neg h2, if_neg (by omega)]
theorem c_X8_copy_a {d : Nat} {w : mW} {k i o j n : Int32} (hS : Shape w) (h : ¬ ((0 ≤ k ∧ k < 4) ∧ 0 ≤ o ∧ o < 4)) : mC (d + 3) kX8_copy [.ref 44, .int k, .int i, .int o, .int j, .int n] w (fun r w' => r = some (.int (-1)) ∧ w' = setF w 44 0 0) := by
  refine mC.of (L := [_, _, _, _, _, _, _, _, _, _]) okX8_copy 4 rfl rfl ?_
  refine x_aload_n (pc := 0) (i := 0) dX8_copy_0 rfl rfl ?_
  refine x_iconst (pc := 1) (v := 0) dX8_copy_1 (by decide) ?_
  refine x_putI (pc := 2) hS fX8_82 dX8_copy_2 rfl rfl rfl rfl (fun hS => ?_)
  refine x_iload_n (pc := 5) (i := 1) dX8_copy_5 rfl rfl ?_
  refine x_ss (pc := 6) (As := [_]) rfl lX8_101 dX8_copy_6 rfl (Nat.le_of_ble_eq_true rfl) c_X8_isSheet ?_
  rintro _ _ ⟨rfl, hq⟩
  obtain rfl := hq.symm
  refine x_pushI ?_
  refine x_if_eq (pc := 9) (tgt := 19) dX8_copy_9 (by decide) (fun h9 => ?_) (fun h9 => ?_)
  · refine x_iconst (pc := 19) (v := (-1)) dX8_copy_19 (by decide) ?_
    refine x_ri (pc := 20) dX8_copy_20 rfl rfl ?_
    exact ⟨rfl, rfl⟩
  · refine x_iload_n (pc := 12) (i := 3) dX8_copy_12 rfl rfl ?_
    refine x_ss (pc := 13) (As := [_]) rfl lX8_101 dX8_copy_13 rfl (Nat.le_of_ble_eq_true rfl) c_X8_isSheet ?_
    rintro _ _ ⟨rfl, hq⟩
    obtain rfl := hq.symm
    refine x_pushI ?_
    refine x_if_ne (pc := 16) (tgt := 21) dX8_copy_16 (by decide) (fun h16 => ?_) (fun h16 => ?_)
    · exfalso; (try simp only [b2_e0, b2_n0, Decidable.not_not] at *) <;> (try simp only [i_lt, i_le, i_eq, not_and, not_or, ne_eq, il_0, il_1, il_2, il_3, il_4, il_5, il_6, il_7, il_8, il_9, il_10, il_14, il_15, il_19, il_20, il_24, il_30, il_31, il_44, il_48, il_49, il_52, il_57, il_59, il_60, il_70, il_99, il_100, il_103, il_108, il_114, il_m1, il_m2, il_m3, il_m4, il_m9, il_m10, il_m100] at *) <;> omega
    · refine x_iconst (pc := 19) (v := (-1)) dX8_copy_19 (by decide) ?_
      refine x_ri (pc := 20) dX8_copy_20 rfl rfl ?_
      exact ⟨rfl, rfl⟩
theorem c_X8_copy_n {d : Nat} {w : mW} {i j n : Int32} {k o : Nat} (hS : Shape w) (hk : k < 4) (ho : o < 4) (h : arr w 45 k = -9 ∨ arr w 45 o = -9) : mC (d + 3) kX8_copy [.ref 44, .int (nI k), .int i, .int (nI o), .int j, .int n] w (fun r w' => r = some (.int (-11)) ∧ w' = setF w 44 0 1) := by
  refine mC.of (L := [_, _, _, _, _, _, _, _, _, _]) okX8_copy 4 rfl rfl ?_
  refine x_aload_n (pc := 0) (i := 0) dX8_copy_0 rfl rfl ?_
  refine x_iconst (pc := 1) (v := 0) dX8_copy_1 (by decide) ?_
  refine x_putI (pc := 2) hS fX8_82 dX8_copy_2 rfl rfl rfl rfl (fun hS => ?_)
  refine x_iload_n (pc := 5) (i := 1) dX8_copy_5 rfl rfl ?_
  refine x_ss (pc := 6) (As := [_]) rfl lX8_101 dX8_copy_6 rfl (Nat.le_of_ble_eq_true rfl) c_X8_isSheet ?_
  rintro _ _ ⟨rfl, hq⟩
  obtain rfl := hq.symm
  refine x_pushI ?_
  refine x_if_eq (pc := 9) (tgt := 19) dX8_copy_9 (by decide) (fun h9 => absurd h9 (by rw [b2_e0]; exact not_not_intro (k3 hk))) (fun h9 => ?_)
  refine x_iload_n (pc := 12) (i := 3) dX8_copy_12 rfl rfl ?_
  refine x_ss (pc := 13) (As := [_]) rfl lX8_101 dX8_copy_13 rfl (Nat.le_of_ble_eq_true rfl) c_X8_isSheet ?_
  rintro _ _ ⟨rfl, hq⟩
  obtain rfl := hq.symm
  refine x_pushI ?_
  refine x_if_ne (pc := 16) (tgt := 21) dX8_copy_16 (by decide) (fun h16 => ?_) (fun h16 => absurd h16 (by rw [b2_n0]; exact k3 ho))
  refine x_aload_n (pc := 21) (i := 0) dX8_copy_21 rfl rfl ?_
  refine x_getR (pc := 22) hS fX8_9 dX8_copy_22 rfl rfl ?_
  refine x_iload_n (pc := 25) (i := 1) dX8_copy_25 rfl rfl ?_
  refine x_aldN (pc := 26) hS dX8_copy_26 rfl (by omega) (by decide) ?_
  refine x_bipush (pc := 27) (v := (-9)) dX8_copy_27 (by decide) ?_
  refine x_icmp_eq (pc := 29) (tgt := 43) dX8_copy_29 (by decide) (fun h29 => ?_) (fun h29 => ?_)
  · refine x_aload_n (pc := 43) (i := 0) dX8_copy_43 rfl rfl ?_
    refine x_iconst (pc := 44) (v := 1) dX8_copy_44 (by decide) ?_
    refine x_vs (pc := 45) (As := [_]) rfl hS lX8_112 dX8_copy_45 rfl rfl (Nat.le_of_ble_eq_true rfl) (c_X8_fails hS) ?_
    rintro _ _ ⟨rfl, hq⟩
    obtain rfl := hq.symm
    refine x_pushI ?_
    refine x_ri (pc := 48) dX8_copy_48 rfl rfl ?_
    exact ⟨rfl, by rw [setF_setF]⟩
  · refine x_aload_n (pc := 32) (i := 0) dX8_copy_32 rfl rfl ?_
    refine x_getR (pc := 33) hS fX8_9 dX8_copy_33 rfl rfl ?_
    refine x_iload_n (pc := 36) (i := 3) dX8_copy_36 rfl rfl ?_
    refine x_aldN (pc := 37) hS dX8_copy_37 rfl (by omega) (by decide) ?_
    refine x_bipush (pc := 38) (v := (-9)) dX8_copy_38 (by decide) ?_
    refine x_icmp_ne (pc := 40) (tgt := 49) dX8_copy_40 (by decide) (fun h40 => ?_) (fun h40 => ?_)
    · exfalso; rw [arr_setF] at h29 h40; exact h.elim h29 h40
    · refine x_aload_n (pc := 43) (i := 0) dX8_copy_43 rfl rfl ?_
      refine x_iconst (pc := 44) (v := 1) dX8_copy_44 (by decide) ?_
      refine x_vs (pc := 45) (As := [_]) rfl hS lX8_112 dX8_copy_45 rfl rfl (Nat.le_of_ble_eq_true rfl) (c_X8_fails hS) ?_
      rintro _ _ ⟨rfl, hq⟩
      obtain rfl := hq.symm
      refine x_pushI ?_
      refine x_ri (pc := 48) dX8_copy_48 rfl rfl ?_
      exact ⟨rfl, by rw [setF_setF]⟩
theorem c_X8_copy_b {d : Nat} {w : mW} {i j n : Int32} {k o : Nat} (hS : Shape w) (hk : k < 4) (ho : o < 4) (h1 : ¬ arr w 45 k = -9) (h2 : ¬ arr w 45 o = -9) (h : ¬ arr w 45 k = arr w 45 o) : mC (d + 3) kX8_copy [.ref 44, .int (nI k), .int i, .int (nI o), .int j, .int n] w (fun r w' => r = some (.int (-12)) ∧ w' = setF w 44 0 2) := by
  refine mC.of (L := [_, _, _, _, _, _, _, _, _, _]) okX8_copy 4 rfl rfl ?_
  refine x_aload_n (pc := 0) (i := 0) dX8_copy_0 rfl rfl ?_
  refine x_iconst (pc := 1) (v := 0) dX8_copy_1 (by decide) ?_
  refine x_putI (pc := 2) hS fX8_82 dX8_copy_2 rfl rfl rfl rfl (fun hS => ?_)
  refine x_iload_n (pc := 5) (i := 1) dX8_copy_5 rfl rfl ?_
  refine x_ss (pc := 6) (As := [_]) rfl lX8_101 dX8_copy_6 rfl (Nat.le_of_ble_eq_true rfl) c_X8_isSheet ?_
  rintro _ _ ⟨rfl, hq⟩
  obtain rfl := hq.symm
  refine x_pushI ?_
  refine x_if_eq (pc := 9) (tgt := 19) dX8_copy_9 (by decide) (fun h9 => absurd h9 (by rw [b2_e0]; exact not_not_intro (k3 hk))) (fun h9 => ?_)
  refine x_iload_n (pc := 12) (i := 3) dX8_copy_12 rfl rfl ?_
  refine x_ss (pc := 13) (As := [_]) rfl lX8_101 dX8_copy_13 rfl (Nat.le_of_ble_eq_true rfl) c_X8_isSheet ?_
  rintro _ _ ⟨rfl, hq⟩
  obtain rfl := hq.symm
  refine x_pushI ?_
  refine x_if_ne (pc := 16) (tgt := 21) dX8_copy_16 (by decide) (fun h16 => ?_) (fun h16 => absurd h16 (by rw [b2_n0]; exact k3 ho))
  refine x_aload_n (pc := 21) (i := 0) dX8_copy_21 rfl rfl ?_
  refine x_getR (pc := 22) hS fX8_9 dX8_copy_22 rfl rfl ?_
  refine x_iload_n (pc := 25) (i := 1) dX8_copy_25 rfl rfl ?_
  refine x_aldN (pc := 26) hS dX8_copy_26 rfl (by omega) (by decide) ?_
  refine x_bipush (pc := 27) (v := (-9)) dX8_copy_27 (by decide) ?_
  refine x_icmp_eq (pc := 29) (tgt := 43) dX8_copy_29 (by decide) (fun h29 => absurd h29 (by rw [arr_setF]; exact h1)) (fun h29 => ?_)
  refine x_aload_n (pc := 32) (i := 0) dX8_copy_32 rfl rfl ?_
  refine x_getR (pc := 33) hS fX8_9 dX8_copy_33 rfl rfl ?_
  refine x_iload_n (pc := 36) (i := 3) dX8_copy_36 rfl rfl ?_
  refine x_aldN (pc := 37) hS dX8_copy_37 rfl (by omega) (by decide) ?_
  refine x_bipush (pc := 38) (v := (-9)) dX8_copy_38 (by decide) ?_
  refine x_icmp_ne (pc := 40) (tgt := 49) dX8_copy_40 (by decide) (fun h40 => ?_) (fun h40 => absurd h40 (by rw [arr_setF]; exact h2))
  refine x_aload_n (pc := 49) (i := 0) dX8_copy_49 rfl rfl ?_
  refine x_getR (pc := 50) hS fX8_9 dX8_copy_50 rfl rfl ?_
  refine x_iload_n (pc := 53) (i := 1) dX8_copy_53 rfl rfl ?_
  refine x_aldN (pc := 54) hS dX8_copy_54 rfl (by omega) (by decide) ?_
  refine x_aload_n (pc := 55) (i := 0) dX8_copy_55 rfl rfl ?_
  refine x_getR (pc := 56) hS fX8_9 dX8_copy_56 rfl rfl ?_
  refine x_iload_n (pc := 59) (i := 3) dX8_copy_59 rfl rfl ?_
  refine x_aldN (pc := 60) hS dX8_copy_60 rfl (by omega) (by decide) ?_
  refine x_icmp_eq (pc := 61) (tgt := 70) dX8_copy_61 (by decide) (fun h61 => absurd h61 (by rw [arr_setF]; exact h)) (fun h61 => ?_)
  refine x_aload_n (pc := 64) (i := 0) dX8_copy_64 rfl rfl ?_
  refine x_iconst (pc := 65) (v := 2) dX8_copy_65 (by decide) ?_
  refine x_vs (pc := 66) (As := [_]) rfl hS lX8_112 dX8_copy_66 rfl rfl (Nat.le_of_ble_eq_true rfl) (c_X8_fails hS) ?_
  rintro _ _ ⟨rfl, hq⟩
  obtain rfl := hq.symm
  refine x_pushI ?_
  refine x_ri (pc := 69) dX8_copy_69 rfl rfl ?_
  exact ⟨rfl, by rw [setF_setF]⟩
theorem c_X8_copy_c {d : Nat} {w : mW} {i j n : Int32} {k o a b : Nat} (hS : Shape w) (hk : k < 4) (ho : o < 4) (h1 : ¬ arr w 45 k = -9) (h2 : ¬ arr w 45 o = -9) (h : arr w 45 k = arr w 45 o) (hsz : (arr w 46 k).toInt = (a : Int)) (hn : a ≤ 60) (hsz' : (arr w 46 o).toInt = (b : Int)) (hn' : b ≤ 60) (hbad : ¬ (0 ≤ i.toInt ∧ 0 ≤ j.toInt ∧ 0 ≤ n.toInt ∧ i.toInt + n.toInt ≤ (a : Int) ∧ j.toInt + n.toInt ≤ (b : Int))) : mC (d + 3) kX8_copy [.ref 44, .int (nI k), .int i, .int (nI o), .int j, .int n] w (fun r w' => r = some (.int (-13)) ∧ w' = setF w 44 0 3) := by
  refine mC.of (L := [_, _, _, _, _, _, _, _, _, _]) okX8_copy 4 rfl rfl ?_
  refine x_aload_n (pc := 0) (i := 0) dX8_copy_0 rfl rfl ?_
  refine x_iconst (pc := 1) (v := 0) dX8_copy_1 (by decide) ?_
  refine x_putI (pc := 2) hS fX8_82 dX8_copy_2 rfl rfl rfl rfl (fun hS => ?_)
  refine x_iload_n (pc := 5) (i := 1) dX8_copy_5 rfl rfl ?_
  refine x_ss (pc := 6) (As := [_]) rfl lX8_101 dX8_copy_6 rfl (Nat.le_of_ble_eq_true rfl) c_X8_isSheet ?_
  rintro _ _ ⟨rfl, hq⟩
  obtain rfl := hq.symm
  refine x_pushI ?_
  refine x_if_eq (pc := 9) (tgt := 19) dX8_copy_9 (by decide) (fun h9 => absurd h9 (by rw [b2_e0]; exact not_not_intro (k3 hk))) (fun h9 => ?_)
  refine x_iload_n (pc := 12) (i := 3) dX8_copy_12 rfl rfl ?_
  refine x_ss (pc := 13) (As := [_]) rfl lX8_101 dX8_copy_13 rfl (Nat.le_of_ble_eq_true rfl) c_X8_isSheet ?_
  rintro _ _ ⟨rfl, hq⟩
  obtain rfl := hq.symm
  refine x_pushI ?_
  refine x_if_ne (pc := 16) (tgt := 21) dX8_copy_16 (by decide) (fun h16 => ?_) (fun h16 => absurd h16 (by rw [b2_n0]; exact k3 ho))
  refine x_aload_n (pc := 21) (i := 0) dX8_copy_21 rfl rfl ?_
  refine x_getR (pc := 22) hS fX8_9 dX8_copy_22 rfl rfl ?_
  refine x_iload_n (pc := 25) (i := 1) dX8_copy_25 rfl rfl ?_
  refine x_aldN (pc := 26) hS dX8_copy_26 rfl (by omega) (by decide) ?_
  refine x_bipush (pc := 27) (v := (-9)) dX8_copy_27 (by decide) ?_
  refine x_icmp_eq (pc := 29) (tgt := 43) dX8_copy_29 (by decide) (fun h29 => absurd h29 (by rw [arr_setF]; exact h1)) (fun h29 => ?_)
  refine x_aload_n (pc := 32) (i := 0) dX8_copy_32 rfl rfl ?_
  refine x_getR (pc := 33) hS fX8_9 dX8_copy_33 rfl rfl ?_
  refine x_iload_n (pc := 36) (i := 3) dX8_copy_36 rfl rfl ?_
  refine x_aldN (pc := 37) hS dX8_copy_37 rfl (by omega) (by decide) ?_
  refine x_bipush (pc := 38) (v := (-9)) dX8_copy_38 (by decide) ?_
  refine x_icmp_ne (pc := 40) (tgt := 49) dX8_copy_40 (by decide) (fun h40 => ?_) (fun h40 => absurd h40 (by rw [arr_setF]; exact h2))
  refine x_aload_n (pc := 49) (i := 0) dX8_copy_49 rfl rfl ?_
  refine x_getR (pc := 50) hS fX8_9 dX8_copy_50 rfl rfl ?_
  refine x_iload_n (pc := 53) (i := 1) dX8_copy_53 rfl rfl ?_
  refine x_aldN (pc := 54) hS dX8_copy_54 rfl (by omega) (by decide) ?_
  refine x_aload_n (pc := 55) (i := 0) dX8_copy_55 rfl rfl ?_
  refine x_getR (pc := 56) hS fX8_9 dX8_copy_56 rfl rfl ?_
  refine x_iload_n (pc := 59) (i := 3) dX8_copy_59 rfl rfl ?_
  refine x_aldN (pc := 60) hS dX8_copy_60 rfl (by omega) (by decide) ?_
  refine x_icmp_eq (pc := 61) (tgt := 70) dX8_copy_61 (by decide) (fun h61 => ?_) (fun h61 => absurd h61 (by rw [arr_setF]; exact not_not_intro h))
  refine x_iload_n (pc := 70) (i := 2) dX8_copy_70 rfl rfl ?_
  refine x_if_lt (pc := 71) (tgt := 109) dX8_copy_71 (by decide) (fun h71 => ?_) (fun h71 => ?_)
  · refine x_iconst (pc := 109) (v := 0) dX8_copy_109 (by decide) ?_
    refine x_istore (pc := 110) (L' := [_, _, _, _, _, _, _, _, _, _]) dX8_copy_110 (by decide) rfl ?_
    refine x_iload (pc := 112) dX8_copy_112 rfl ?_
    refine x_if_eq (pc := 114) (tgt := 144) dX8_copy_114 (by decide) (fun _ => ?_) (fun h114 => absurd h114 (by decide))
    refine x_aload_n (pc := 144) (i := 0) dX8_copy_144 rfl rfl ?_
    refine x_iconst (pc := 145) (v := 3) dX8_copy_145 (by decide) ?_
    refine x_vs (pc := 146) (As := [_]) rfl hS lX8_112 dX8_copy_146 rfl rfl (Nat.le_of_ble_eq_true rfl) (c_X8_fails hS) ?_
    rintro _ _ ⟨rfl, hq⟩
    obtain rfl := hq.symm
    refine x_pushI ?_
    refine x_ri (pc := 149) dX8_copy_149 rfl rfl ?_
    exact ⟨rfl, by rw [setF_setF]⟩
  · refine x_iload (pc := 74) dX8_copy_74 rfl ?_
    refine x_if_lt (pc := 76) (tgt := 109) dX8_copy_76 (by decide) (fun h76 => ?_) (fun h76 => ?_)
    · refine x_iconst (pc := 109) (v := 0) dX8_copy_109 (by decide) ?_
      refine x_istore (pc := 110) (L' := [_, _, _, _, _, _, _, _, _, _]) dX8_copy_110 (by decide) rfl ?_
      refine x_iload (pc := 112) dX8_copy_112 rfl ?_
      refine x_if_eq (pc := 114) (tgt := 144) dX8_copy_114 (by decide) (fun _ => ?_) (fun h114 => absurd h114 (by decide))
      refine x_aload_n (pc := 144) (i := 0) dX8_copy_144 rfl rfl ?_
      refine x_iconst (pc := 145) (v := 3) dX8_copy_145 (by decide) ?_
      refine x_vs (pc := 146) (As := [_]) rfl hS lX8_112 dX8_copy_146 rfl rfl (Nat.le_of_ble_eq_true rfl) (c_X8_fails hS) ?_
      rintro _ _ ⟨rfl, hq⟩
      obtain rfl := hq.symm
      refine x_pushI ?_
      refine x_ri (pc := 149) dX8_copy_149 rfl rfl ?_
      exact ⟨rfl, by rw [setF_setF]⟩
    · refine x_iload (pc := 79) dX8_copy_79 rfl ?_
      refine x_if_lt (pc := 81) (tgt := 109) dX8_copy_81 (by decide) (fun h81 => ?_) (fun h81 => ?_)
      · refine x_iconst (pc := 109) (v := 0) dX8_copy_109 (by decide) ?_
        refine x_istore (pc := 110) (L' := [_, _, _, _, _, _, _, _, _, _]) dX8_copy_110 (by decide) rfl ?_
        refine x_iload (pc := 112) dX8_copy_112 rfl ?_
        refine x_if_eq (pc := 114) (tgt := 144) dX8_copy_114 (by decide) (fun _ => ?_) (fun h114 => absurd h114 (by decide))
        refine x_aload_n (pc := 144) (i := 0) dX8_copy_144 rfl rfl ?_
        refine x_iconst (pc := 145) (v := 3) dX8_copy_145 (by decide) ?_
        refine x_vs (pc := 146) (As := [_]) rfl hS lX8_112 dX8_copy_146 rfl rfl (Nat.le_of_ble_eq_true rfl) (c_X8_fails hS) ?_
        rintro _ _ ⟨rfl, hq⟩
        obtain rfl := hq.symm
        refine x_pushI ?_
        refine x_ri (pc := 149) dX8_copy_149 rfl rfl ?_
        exact ⟨rfl, by rw [setF_setF]⟩
      · refine x_iload_n (pc := 84) (i := 2) dX8_copy_84 rfl rfl ?_
        refine x_aload_n (pc := 85) (i := 0) dX8_copy_85 rfl rfl ?_
        refine x_getR (pc := 86) hS fX8_13 dX8_copy_86 rfl rfl ?_
        refine x_iload_n (pc := 89) (i := 1) dX8_copy_89 rfl rfl ?_
        refine x_aldN (pc := 90) hS dX8_copy_90 rfl (by omega) (by decide) ?_
        refine x_icmp_gt (pc := 91) (tgt := 109) dX8_copy_91 (by decide) (fun h91 => ?_) (fun h91 => ?_)
        · refine x_iconst (pc := 109) (v := 0) dX8_copy_109 (by decide) ?_
          refine x_istore (pc := 110) (L' := [_, _, _, _, _, _, _, _, _, _]) dX8_copy_110 (by decide) rfl ?_
          refine x_iload (pc := 112) dX8_copy_112 rfl ?_
          refine x_if_eq (pc := 114) (tgt := 144) dX8_copy_114 (by decide) (fun _ => ?_) (fun h114 => absurd h114 (by decide))
          refine x_aload_n (pc := 144) (i := 0) dX8_copy_144 rfl rfl ?_
          refine x_iconst (pc := 145) (v := 3) dX8_copy_145 (by decide) ?_
          refine x_vs (pc := 146) (As := [_]) rfl hS lX8_112 dX8_copy_146 rfl rfl (Nat.le_of_ble_eq_true rfl) (c_X8_fails hS) ?_
          rintro _ _ ⟨rfl, hq⟩
          obtain rfl := hq.symm
          refine x_pushI ?_
          refine x_ri (pc := 149) dX8_copy_149 rfl rfl ?_
          exact ⟨rfl, by rw [setF_setF]⟩
        · refine x_iload (pc := 94) dX8_copy_94 rfl ?_
          refine x_aload_n (pc := 96) (i := 0) dX8_copy_96 rfl rfl ?_
          refine x_getR (pc := 97) hS fX8_13 dX8_copy_97 rfl rfl ?_
          refine x_iload_n (pc := 100) (i := 3) dX8_copy_100 rfl rfl ?_
          refine x_aldN (pc := 101) hS dX8_copy_101 rfl (by omega) (by decide) ?_
          refine x_icmp_gt (pc := 102) (tgt := 109) dX8_copy_102 (by decide) (fun h102 => ?_) (fun h102 => ?_)
          · refine x_iconst (pc := 109) (v := 0) dX8_copy_109 (by decide) ?_
            refine x_istore (pc := 110) (L' := [_, _, _, _, _, _, _, _, _, _]) dX8_copy_110 (by decide) rfl ?_
            refine x_iload (pc := 112) dX8_copy_112 rfl ?_
            refine x_if_eq (pc := 114) (tgt := 144) dX8_copy_114 (by decide) (fun _ => ?_) (fun h114 => absurd h114 (by decide))
            refine x_aload_n (pc := 144) (i := 0) dX8_copy_144 rfl rfl ?_
            refine x_iconst (pc := 145) (v := 3) dX8_copy_145 (by decide) ?_
            refine x_vs (pc := 146) (As := [_]) rfl hS lX8_112 dX8_copy_146 rfl rfl (Nat.le_of_ble_eq_true rfl) (c_X8_fails hS) ?_
            rintro _ _ ⟨rfl, hq⟩
            obtain rfl := hq.symm
            refine x_pushI ?_
            refine x_ri (pc := 149) dX8_copy_149 rfl rfl ?_
            exact ⟨rfl, by rw [setF_setF]⟩
          · refine x_iconst (pc := 105) (v := 1) dX8_copy_105 (by decide) ?_
            refine x_goto (pc := 106) (tgt := 110) dX8_copy_106 (by decide) ?_
            refine x_istore (pc := 110) (L' := [_, _, _, _, _, _, _, _, _, _]) dX8_copy_110 (by decide) rfl ?_
            refine x_iload (pc := 112) dX8_copy_112 rfl ?_
            refine x_if_eq (pc := 114) (tgt := 144) dX8_copy_114 (by decide) (fun h114 => absurd h114 (by decide)) (fun _ => ?_)
            refine x_iload (pc := 117) dX8_copy_117 rfl ?_
            refine x_aload_n (pc := 119) (i := 0) dX8_copy_119 rfl rfl ?_
            refine x_getR (pc := 120) hS fX8_13 dX8_copy_120 rfl rfl ?_
            refine x_iload_n (pc := 123) (i := 1) dX8_copy_123 rfl rfl ?_
            refine x_aldN (pc := 124) hS dX8_copy_124 rfl (by omega) (by decide) ?_
            refine x_iload_n (pc := 125) (i := 2) dX8_copy_125 rfl rfl ?_
            refine x_isub (pc := 126) dX8_copy_126 ?_
            refine x_icmp_gt (pc := 127) (tgt := 144) dX8_copy_127 (by decide) (fun h127 => ?_) (fun h127 => ?_)
            · refine x_aload_n (pc := 144) (i := 0) dX8_copy_144 rfl rfl ?_
              refine x_iconst (pc := 145) (v := 3) dX8_copy_145 (by decide) ?_
              refine x_vs (pc := 146) (As := [_]) rfl hS lX8_112 dX8_copy_146 rfl rfl (Nat.le_of_ble_eq_true rfl) (c_X8_fails hS) ?_
              rintro _ _ ⟨rfl, hq⟩
              obtain rfl := hq.symm
              refine x_pushI ?_
              refine x_ri (pc := 149) dX8_copy_149 rfl rfl ?_
              exact ⟨rfl, by rw [setF_setF]⟩
            · refine x_iload (pc := 130) dX8_copy_130 rfl ?_
              refine x_aload_n (pc := 132) (i := 0) dX8_copy_132 rfl rfl ?_
              refine x_getR (pc := 133) hS fX8_13 dX8_copy_133 rfl rfl ?_
              refine x_iload_n (pc := 136) (i := 3) dX8_copy_136 rfl rfl ?_
              refine x_aldN (pc := 137) hS dX8_copy_137 rfl (by omega) (by decide) ?_
              refine x_iload (pc := 138) dX8_copy_138 rfl ?_
              refine x_isub (pc := 140) dX8_copy_140 ?_
              refine x_icmp_le (pc := 141) (tgt := 150) dX8_copy_141 (by decide) (fun h141 => ?_) (fun h141 => ?_)
              · exfalso
                simp only [arr_setF] at *
                have z1 := i_sub (a := arr w 46 k) (b := i) (by (try simp only [b2_e0, b2_n0, Decidable.not_not] at *) <;> (try simp only [i_lt, i_le, i_eq, not_and, not_or, ne_eq, il_0, il_1, il_2, il_3, il_4, il_5, il_6, il_7, il_8, il_9, il_10, il_14, il_15, il_19, il_20, il_24, il_30, il_31, il_44, il_48, il_49, il_52, il_57, il_59, il_60, il_70, il_99, il_100, il_103, il_108, il_114, il_m1, il_m2, il_m3, il_m4, il_m9, il_m10, il_m100] at *) <;> omega) (by (try simp only [b2_e0, b2_n0, Decidable.not_not] at *) <;> (try simp only [i_lt, i_le, i_eq, not_and, not_or, ne_eq, il_0, il_1, il_2, il_3, il_4, il_5, il_6, il_7, il_8, il_9, il_10, il_14, il_15, il_19, il_20, il_24, il_30, il_31, il_44, il_48, il_49, il_52, il_57, il_59, il_60, il_70, il_99, il_100, il_103, il_108, il_114, il_m1, il_m2, il_m3, il_m4, il_m9, il_m10, il_m100] at *) <;> omega)
                have z2 := i_sub (a := arr w 46 o) (b := j) (by (try simp only [b2_e0, b2_n0, Decidable.not_not] at *) <;> (try simp only [i_lt, i_le, i_eq, not_and, not_or, ne_eq, il_0, il_1, il_2, il_3, il_4, il_5, il_6, il_7, il_8, il_9, il_10, il_14, il_15, il_19, il_20, il_24, il_30, il_31, il_44, il_48, il_49, il_52, il_57, il_59, il_60, il_70, il_99, il_100, il_103, il_108, il_114, il_m1, il_m2, il_m3, il_m4, il_m9, il_m10, il_m100] at *) <;> omega) (by (try simp only [b2_e0, b2_n0, Decidable.not_not] at *) <;> (try simp only [i_lt, i_le, i_eq, not_and, not_or, ne_eq, il_0, il_1, il_2, il_3, il_4, il_5, il_6, il_7, il_8, il_9, il_10, il_14, il_15, il_19, il_20, il_24, il_30, il_31, il_44, il_48, il_49, il_52, il_57, il_59, il_60, il_70, il_99, il_100, il_103, il_108, il_114, il_m1, il_m2, il_m3, il_m4, il_m9, il_m10, il_m100] at *) <;> omega)
                (try simp only [b2_e0, b2_n0, Decidable.not_not] at *) <;> (try simp only [i_lt, i_le, i_eq, not_and, not_or, ne_eq, il_0, il_1, il_2, il_3, il_4, il_5, il_6, il_7, il_8, il_9, il_10, il_14, il_15, il_19, il_20, il_24, il_30, il_31, il_44, il_48, il_49, il_52, il_57, il_59, il_60, il_70, il_99, il_100, il_103, il_108, il_114, il_m1, il_m2, il_m3, il_m4, il_m9, il_m10, il_m100] at *) <;> omega
              · refine x_aload_n (pc := 144) (i := 0) dX8_copy_144 rfl rfl ?_
                refine x_iconst (pc := 145) (v := 3) dX8_copy_145 (by decide) ?_
                refine x_vs (pc := 146) (As := [_]) rfl hS lX8_112 dX8_copy_146 rfl rfl (Nat.le_of_ble_eq_true rfl) (c_X8_fails hS) ?_
                rintro _ _ ⟨rfl, hq⟩
                obtain rfl := hq.symm
                refine x_pushI ?_
                refine x_ri (pc := 149) dX8_copy_149 rfl rfl ?_
                exact ⟨rfl, by rw [setF_setF]⟩
theorem copy_f {d : Nat} {w : mW} {k o i j n : Nat} (hS0 : Shape w) (hk : k < 4) (ho : o < 4) (hi : i + n ≤ 60) (hj : j + n ≤ 60) (hov : 60 * o + j ≤ 60 * k + i ∨ 60 * k + i + n ≤ 60 * o + j) : mJ mX0 (d + 3) kX8_copy (fun r w' => r = some (.int (nI n)) ∧ w' = setA w 47 (va_cpy (arr w 47) (arr w 47) (60 * k + i) (60 * o + j) n)) 166 [.ref 44, .int (nI k), .int (nI i), .int (nI o), .int (nI j), .int (nI n), .null, .int 0, .int (nI 0), .null] [] w := by
  have tn : (nI n).toInt = (n : Int) := nI_toInt (by omega)
  have lp : ∀ (m q : Nat), q ≤ n → n < q + m → mJ mX0 (d + 3) kX8_copy (fun r w' => r = some (.int (nI n)) ∧ w' = setA w 47 (va_cpy (arr w 47) (arr w 47) (60 * k + i) (60 * o + j) n)) 166 [.ref 44, .int (nI k), .int (nI i), .int (nI o), .int (nI j), .int (nI n), .null, .int 0, .int (nI q), .null] [] (setA w 47 (va_cpy (arr w 47) (arr w 47) (60 * k + i) (60 * o + j) q)) := by
    intro m
    induction m with
    | zero => intro q h1 h2; omega
    | succ m ih =>
      intro q hq1 hq2
      have hS := hS0.stA 47 (va_cpy (arr w 47) (arr w 47) (60 * k + i) (60 * o + j) q)
      have tq : (nI q).toInt = (q : Int) := nI_toInt (by omega)
      refine x_iload (pc := 166) dX8_copy_166 rfl ?_
      refine x_iload (pc := 168) dX8_copy_168 rfl ?_
      refine x_icmp_ge (pc := 170) (tgt := 227) dX8_copy_170 (by decide) (fun h170 => ?_) (fun h170 => ?_)
      · refine x_iload (pc := 227) dX8_copy_227 rfl ?_
        refine x_ri (pc := 229) dX8_copy_229 rfl rfl ?_
        have e := show q = n by (try simp only [b2_e0, b2_n0, Decidable.not_not] at *) <;> (try simp only [i_lt, i_le, i_eq, not_and, not_or, ne_eq, il_0, il_1, il_2, il_3, il_4, il_5, il_6, il_7, il_8, il_9, il_10, il_14, il_15, il_19, il_20, il_24, il_30, il_31, il_44, il_48, il_49, il_52, il_57, il_59, il_60, il_70, il_99, il_100, il_103, il_108, il_114, il_m1, il_m2, il_m3, il_m4, il_m9, il_m10, il_m100] at *) <;> omega
        subst e
        exact ⟨rfl, rfl⟩
      · have hqn : q < n := by (try simp only [b2_e0, b2_n0, Decidable.not_not] at *) <;> (try simp only [i_lt, i_le, i_eq, not_and, not_or, ne_eq, il_0, il_1, il_2, il_3, il_4, il_5, il_6, il_7, il_8, il_9, il_10, il_14, il_15, il_19, il_20, il_24, il_30, il_31, il_44, il_48, il_49, il_52, il_57, il_59, il_60, il_70, il_99, il_100, il_103, il_108, il_114, il_m1, il_m2, il_m3, il_m4, il_m9, il_m10, il_m100] at *) <;> omega
        refine x_iload (pc := 173) dX8_copy_173 rfl ?_
        refine x_if_eq (pc := 175) (tgt := 188) dX8_copy_175 (by decide) (fun h175 => ?_) (fun h175 => absurd h175 (by exact not_not_intro rfl))
        refine x_iload (pc := 188) dX8_copy_188 rfl ?_
        refine x_istore (pc := 190) (L' := [_, _, _, _, _, _, _, _, _, _]) dX8_copy_190 (by decide) rfl ?_
        refine x_aload_n (pc := 192) (i := 0) dX8_copy_192 rfl rfl ?_
        refine x_getR (pc := 193) hS fX8_16 dX8_copy_193 rfl rfl ?_
        refine x_bipush (pc := 196) (v := 60) dX8_copy_196 (by decide) ?_
        refine x_iload_n (pc := 198) (i := 3) dX8_copy_198 rfl rfl ?_
        refine x_imul (pc := 199) dX8_copy_199 ?_
        refine x_iload (pc := 200) dX8_copy_200 rfl ?_
        refine x_iadd (pc := 202) dX8_copy_202 ?_
        rw [ix60']
        refine x_iload (pc := 203) dX8_copy_203 rfl ?_
        refine x_iadd (pc := 205) dX8_copy_205 ?_
        rw [nI_add]
        refine x_aload_n (pc := 206) (i := 0) dX8_copy_206 rfl rfl ?_
        refine x_getR (pc := 207) hS fX8_16 dX8_copy_207 rfl rfl ?_
        refine x_bipush (pc := 210) (v := 60) dX8_copy_210 (by decide) ?_
        refine x_iload_n (pc := 212) (i := 1) dX8_copy_212 rfl rfl ?_
        refine x_imul (pc := 213) dX8_copy_213 ?_
        refine x_iload_n (pc := 214) (i := 2) dX8_copy_214 rfl rfl ?_
        refine x_iadd (pc := 215) dX8_copy_215 ?_
        rw [ix60']
        refine x_iload (pc := 216) dX8_copy_216 rfl ?_
        refine x_iadd (pc := 218) dX8_copy_218 ?_
        rw [nI_add]
        refine x_aldN (pc := 219) hS dX8_copy_219 rfl (by omega) (by decide) ?_
        rw [arr_setA hS0 rfl, pk_cpy_out (by omega)]
        refine x_astN (pc := 220) hS dX8_copy_220 rfl (by omega) (by decide) (fun hS => ?_)
        rw [arr_setA hS0 rfl, setA_setA, cp_f]
        refine x_iinc (pc := 221) (L' := [_, _, _, _, _, _, _, _, _, _]) dX8_copy_221 (by decide) rfl (by first | exact nI_inc _ | rfl) rfl ?_
        refine x_goto (pc := 224) (tgt := 166) dX8_copy_224 (by decide) ?_
        exact mJ.weak (wk_v (wk_v (wk_v (wk_v (wk_v (wk_v (wk_n (wk_v (wk_v (wk_n wk_0)))))))))) (ih (q + 1) (by omega) (by omega))
  have h9 := lp (n + 1) 0 (by omega) (by omega)
  rw [cp_0, setA_self hS0 rfl] at h9
  exact h9
theorem copy_b {d : Nat} {w : mW} {k o i j n : Nat} (hS0 : Shape w) (hk : k < 4) (ho : o < 4) (hi : i + n ≤ 60) (hj : j + n ≤ 60) (hov : 60 * k + i ≤ 60 * o + j ∨ 60 * o + j + n ≤ 60 * k + i) : mJ mX0 (d + 3) kX8_copy (fun r w' => r = some (.int (nI n)) ∧ w' = setA w 47 (va_cpy (arr w 47) (arr w 47) (60 * k + i) (60 * o + j) n)) 166 [.ref 44, .int (nI k), .int (nI i), .int (nI o), .int (nI j), .int (nI n), .null, .int 1, .int (nI 0), .null] [] w := by
  have tn : (nI n).toInt = (n : Int) := nI_toInt (by omega)
  have lp : ∀ (m q : Nat), q ≤ n → n < q + m → mJ mX0 (d + 3) kX8_copy (fun r w' => r = some (.int (nI n)) ∧ w' = setA w 47 (va_cpy (arr w 47) (arr w 47) (60 * k + i) (60 * o + j) n)) 166 [.ref 44, .int (nI k), .int (nI i), .int (nI o), .int (nI j), .int (nI n), .null, .int 1, .int (nI q), .null] [] (setA w 47 (va_cpy (arr w 47) (arr w 47) (60 * k + i + (n - q)) (60 * o + j + (n - q)) q)) := by
    intro m
    induction m with
    | zero => intro q h1 h2; omega
    | succ m ih =>
      intro q hq1 hq2
      have hS := hS0.stA 47 (va_cpy (arr w 47) (arr w 47) (60 * k + i + (n - q)) (60 * o + j + (n - q)) q)
      have tq : (nI q).toInt = (q : Int) := nI_toInt (by omega)
      refine x_iload (pc := 166) dX8_copy_166 rfl ?_
      refine x_iload (pc := 168) dX8_copy_168 rfl ?_
      refine x_icmp_ge (pc := 170) (tgt := 227) dX8_copy_170 (by decide) (fun h170 => ?_) (fun h170 => ?_)
      · refine x_iload (pc := 227) dX8_copy_227 rfl ?_
        refine x_ri (pc := 229) dX8_copy_229 rfl rfl ?_
        have e := show q = n by (try simp only [b2_e0, b2_n0, Decidable.not_not] at *) <;> (try simp only [i_lt, i_le, i_eq, not_and, not_or, ne_eq, il_0, il_1, il_2, il_3, il_4, il_5, il_6, il_7, il_8, il_9, il_10, il_14, il_15, il_19, il_20, il_24, il_30, il_31, il_44, il_48, il_49, il_52, il_57, il_59, il_60, il_70, il_99, il_100, il_103, il_108, il_114, il_m1, il_m2, il_m3, il_m4, il_m9, il_m10, il_m100] at *) <;> omega
        subst e
        rw [Nat.sub_self]
        exact ⟨rfl, rfl⟩
      · have hqn : q < n := by (try simp only [b2_e0, b2_n0, Decidable.not_not] at *) <;> (try simp only [i_lt, i_le, i_eq, not_and, not_or, ne_eq, il_0, il_1, il_2, il_3, il_4, il_5, il_6, il_7, il_8, il_9, il_10, il_14, il_15, il_19, il_20, il_24, il_30, il_31, il_44, il_48, il_49, il_52, il_57, il_59, il_60, il_70, il_99, il_100, il_103, il_108, il_114, il_m1, il_m2, il_m3, il_m4, il_m9, il_m10, il_m100] at *) <;> omega
        refine x_iload (pc := 173) dX8_copy_173 rfl ?_
        refine x_if_eq (pc := 175) (tgt := 188) dX8_copy_175 (by decide) (fun h175 => absurd h175 (by decide)) (fun h175 => ?_)
        refine x_iload (pc := 178) dX8_copy_178 rfl ?_
        refine x_iconst (pc := 180) (v := 1) dX8_copy_180 (by decide) ?_
        refine x_isub (pc := 181) dX8_copy_181 ?_
        rw [show (nI n - 1 : Int32) = nI (n - 1) from pk_sub (b := 1) (by omega)]
        refine x_iload (pc := 182) dX8_copy_182 rfl ?_
        refine x_isub (pc := 184) dX8_copy_184 ?_
        rw [pk_sub (by omega)]
        refine x_goto (pc := 185) (tgt := 190) dX8_copy_185 (by decide) ?_
        refine x_istore (pc := 190) (L' := [_, _, _, _, _, _, _, _, _, _]) dX8_copy_190 (by decide) rfl ?_
        refine x_aload_n (pc := 192) (i := 0) dX8_copy_192 rfl rfl ?_
        refine x_getR (pc := 193) hS fX8_16 dX8_copy_193 rfl rfl ?_
        refine x_bipush (pc := 196) (v := 60) dX8_copy_196 (by decide) ?_
        refine x_iload_n (pc := 198) (i := 3) dX8_copy_198 rfl rfl ?_
        refine x_imul (pc := 199) dX8_copy_199 ?_
        refine x_iload (pc := 200) dX8_copy_200 rfl ?_
        refine x_iadd (pc := 202) dX8_copy_202 ?_
        rw [ix60']
        refine x_iload (pc := 203) dX8_copy_203 rfl ?_
        refine x_iadd (pc := 205) dX8_copy_205 ?_
        rw [nI_add]
        refine x_aload_n (pc := 206) (i := 0) dX8_copy_206 rfl rfl ?_
        refine x_getR (pc := 207) hS fX8_16 dX8_copy_207 rfl rfl ?_
        refine x_bipush (pc := 210) (v := 60) dX8_copy_210 (by decide) ?_
        refine x_iload_n (pc := 212) (i := 1) dX8_copy_212 rfl rfl ?_
        refine x_imul (pc := 213) dX8_copy_213 ?_
        refine x_iload_n (pc := 214) (i := 2) dX8_copy_214 rfl rfl ?_
        refine x_iadd (pc := 215) dX8_copy_215 ?_
        rw [ix60']
        refine x_iload (pc := 216) dX8_copy_216 rfl ?_
        refine x_iadd (pc := 218) dX8_copy_218 ?_
        rw [nI_add]
        refine x_aldN (pc := 219) hS dX8_copy_219 rfl (by omega) (by decide) ?_
        rw [arr_setA hS0 rfl, pk_cpy_out (by omega)]
        refine x_astN (pc := 220) hS dX8_copy_220 rfl (by omega) (by decide) (fun hS => ?_)
        rw [arr_setA hS0 rfl, setA_setA, cp_b hqn]
        refine x_iinc (pc := 221) (L' := [_, _, _, _, _, _, _, _, _, _]) dX8_copy_221 (by decide) rfl (by first | exact nI_inc _ | rfl) rfl ?_
        refine x_goto (pc := 224) (tgt := 166) dX8_copy_224 (by decide) ?_
        exact mJ.weak (wk_v (wk_v (wk_v (wk_v (wk_v (wk_v (wk_n (wk_v (wk_v (wk_n wk_0)))))))))) (ih (q + 1) (by omega) (by omega))
  have h9 := lp (n + 1) 0 (by omega) (by omega)
  rw [cp_0, setA_self hS0 rfl] at h9
  exact h9
theorem c_X8_copy_d {d : Nat} {w : mW} {k o i j n a b : Nat} (hS : Shape w) (hk : k < 4) (ho : o < 4) (h1 : ¬ arr w 45 k = -9) (h2 : ¬ arr w 45 o = -9) (h : arr w 45 k = arr w 45 o) (hsz : arr w 46 k = nI a) (hn : a ≤ 60) (hi : i + n ≤ a) (hsz' : arr w 46 o = nI b) (hn' : b ≤ 60) (hj : j + n ≤ b) : mC (d + 3) kX8_copy [.ref 44, .int (nI k), .int (nI i), .int (nI o), .int (nI j), .int (nI n)] w (fun r w' => r = some (.int (nI n)) ∧ w' = setA (setF w 44 0 0) 47 (va_cpy (arr w 47) (arr w 47) (60 * k + i) (60 * o + j) n)) := by
  have hSw := hS.stF (a := 44) (k := 0) rfl rfl 0
  refine mC.of (L := [_, _, _, _, _, _, _, _, _, _]) okX8_copy 4 rfl rfl ?_
  refine x_aload_n (pc := 0) (i := 0) dX8_copy_0 rfl rfl ?_
  refine x_iconst (pc := 1) (v := 0) dX8_copy_1 (by decide) ?_
  refine x_putI (pc := 2) hS fX8_82 dX8_copy_2 rfl rfl rfl rfl (fun hS => ?_)
  refine x_iload_n (pc := 5) (i := 1) dX8_copy_5 rfl rfl ?_
  refine x_ss (pc := 6) (As := [_]) rfl lX8_101 dX8_copy_6 rfl (Nat.le_of_ble_eq_true rfl) c_X8_isSheet ?_
  rintro _ _ ⟨rfl, hq⟩
  obtain rfl := hq.symm
  refine x_pushI ?_
  refine x_if_eq (pc := 9) (tgt := 19) dX8_copy_9 (by decide) (fun h9 => absurd h9 (by rw [b2_e0]; exact not_not_intro (k3 hk))) (fun h9 => ?_)
  refine x_iload_n (pc := 12) (i := 3) dX8_copy_12 rfl rfl ?_
  refine x_ss (pc := 13) (As := [_]) rfl lX8_101 dX8_copy_13 rfl (Nat.le_of_ble_eq_true rfl) c_X8_isSheet ?_
  rintro _ _ ⟨rfl, hq⟩
  obtain rfl := hq.symm
  refine x_pushI ?_
  refine x_if_ne (pc := 16) (tgt := 21) dX8_copy_16 (by decide) (fun h16 => ?_) (fun h16 => absurd h16 (by rw [b2_n0]; exact k3 ho))
  refine x_aload_n (pc := 21) (i := 0) dX8_copy_21 rfl rfl ?_
  refine x_getR (pc := 22) hS fX8_9 dX8_copy_22 rfl rfl ?_
  refine x_iload_n (pc := 25) (i := 1) dX8_copy_25 rfl rfl ?_
  refine x_aldN (pc := 26) hS dX8_copy_26 rfl (by omega) (by decide) ?_
  refine x_bipush (pc := 27) (v := (-9)) dX8_copy_27 (by decide) ?_
  refine x_icmp_eq (pc := 29) (tgt := 43) dX8_copy_29 (by decide) (fun h29 => absurd h29 (by rw [arr_setF]; exact h1)) (fun h29 => ?_)
  refine x_aload_n (pc := 32) (i := 0) dX8_copy_32 rfl rfl ?_
  refine x_getR (pc := 33) hS fX8_9 dX8_copy_33 rfl rfl ?_
  refine x_iload_n (pc := 36) (i := 3) dX8_copy_36 rfl rfl ?_
  refine x_aldN (pc := 37) hS dX8_copy_37 rfl (by omega) (by decide) ?_
  refine x_bipush (pc := 38) (v := (-9)) dX8_copy_38 (by decide) ?_
  refine x_icmp_ne (pc := 40) (tgt := 49) dX8_copy_40 (by decide) (fun h40 => ?_) (fun h40 => absurd h40 (by rw [arr_setF]; exact h2))
  refine x_aload_n (pc := 49) (i := 0) dX8_copy_49 rfl rfl ?_
  refine x_getR (pc := 50) hS fX8_9 dX8_copy_50 rfl rfl ?_
  refine x_iload_n (pc := 53) (i := 1) dX8_copy_53 rfl rfl ?_
  refine x_aldN (pc := 54) hS dX8_copy_54 rfl (by omega) (by decide) ?_
  refine x_aload_n (pc := 55) (i := 0) dX8_copy_55 rfl rfl ?_
  refine x_getR (pc := 56) hS fX8_9 dX8_copy_56 rfl rfl ?_
  refine x_iload_n (pc := 59) (i := 3) dX8_copy_59 rfl rfl ?_
  refine x_aldN (pc := 60) hS dX8_copy_60 rfl (by omega) (by decide) ?_
  refine x_icmp_eq (pc := 61) (tgt := 70) dX8_copy_61 (by decide) (fun h61 => ?_) (fun h61 => absurd h61 (by rw [arr_setF]; exact not_not_intro h))
  refine x_iload_n (pc := 70) (i := 2) dX8_copy_70 rfl rfl ?_
  refine x_if_lt (pc := 71) (tgt := 109) dX8_copy_71 (by decide) (fun h71 => absurd h71 (by exact nI_pos (by omega))) (fun h71 => ?_)
  refine x_iload (pc := 74) dX8_copy_74 rfl ?_
  refine x_if_lt (pc := 76) (tgt := 109) dX8_copy_76 (by decide) (fun h76 => absurd h76 (by exact nI_pos (by omega))) (fun h76 => ?_)
  refine x_iload (pc := 79) dX8_copy_79 rfl ?_
  refine x_if_lt (pc := 81) (tgt := 109) dX8_copy_81 (by decide) (fun h81 => absurd h81 (by exact nI_pos (by omega))) (fun h81 => ?_)
  refine x_iload_n (pc := 84) (i := 2) dX8_copy_84 rfl rfl ?_
  refine x_aload_n (pc := 85) (i := 0) dX8_copy_85 rfl rfl ?_
  refine x_getR (pc := 86) hS fX8_13 dX8_copy_86 rfl rfl ?_
  refine x_iload_n (pc := 89) (i := 1) dX8_copy_89 rfl rfl ?_
  refine x_aldN (pc := 90) hS dX8_copy_90 rfl (by omega) (by decide) ?_
  rw [arr_setF, hsz]
  refine x_icmp_gt (pc := 91) (tgt := 109) dX8_copy_91 (by decide) (fun h91 => absurd h91 (by exact nI_nlt (by omega) (by omega))) (fun h91 => ?_)
  refine x_iload (pc := 94) dX8_copy_94 rfl ?_
  refine x_aload_n (pc := 96) (i := 0) dX8_copy_96 rfl rfl ?_
  refine x_getR (pc := 97) hS fX8_13 dX8_copy_97 rfl rfl ?_
  refine x_iload_n (pc := 100) (i := 3) dX8_copy_100 rfl rfl ?_
  refine x_aldN (pc := 101) hS dX8_copy_101 rfl (by omega) (by decide) ?_
  rw [arr_setF, hsz']
  refine x_icmp_gt (pc := 102) (tgt := 109) dX8_copy_102 (by decide) (fun h102 => absurd h102 (by exact nI_nlt (by omega) (by omega))) (fun h102 => ?_)
  refine x_iconst (pc := 105) (v := 1) dX8_copy_105 (by decide) ?_
  refine x_goto (pc := 106) (tgt := 110) dX8_copy_106 (by decide) ?_
  refine x_istore (pc := 110) (L' := [_, _, _, _, _, _, _, _, _, _]) dX8_copy_110 (by decide) rfl ?_
  refine x_iload (pc := 112) dX8_copy_112 rfl ?_
  refine x_if_eq (pc := 114) (tgt := 144) dX8_copy_114 (by decide) (fun h114 => absurd h114 (by decide)) (fun _ => ?_)
  refine x_iload (pc := 117) dX8_copy_117 rfl ?_
  refine x_aload_n (pc := 119) (i := 0) dX8_copy_119 rfl rfl ?_
  refine x_getR (pc := 120) hS fX8_13 dX8_copy_120 rfl rfl ?_
  refine x_iload_n (pc := 123) (i := 1) dX8_copy_123 rfl rfl ?_
  refine x_aldN (pc := 124) hS dX8_copy_124 rfl (by omega) (by decide) ?_
  rw [arr_setF, hsz]
  refine x_iload_n (pc := 125) (i := 2) dX8_copy_125 rfl rfl ?_
  refine x_isub (pc := 126) dX8_copy_126 ?_
  rw [pk_sub (by omega)]
  refine x_icmp_gt (pc := 127) (tgt := 144) dX8_copy_127 (by decide) (fun h127 => absurd h127 (by exact nI_nlt (by omega) (by omega))) (fun h127 => ?_)
  refine x_iload (pc := 130) dX8_copy_130 rfl ?_
  refine x_aload_n (pc := 132) (i := 0) dX8_copy_132 rfl rfl ?_
  refine x_getR (pc := 133) hS fX8_13 dX8_copy_133 rfl rfl ?_
  refine x_iload_n (pc := 136) (i := 3) dX8_copy_136 rfl rfl ?_
  refine x_aldN (pc := 137) hS dX8_copy_137 rfl (by omega) (by decide) ?_
  rw [arr_setF, hsz']
  refine x_iload (pc := 138) dX8_copy_138 rfl ?_
  refine x_isub (pc := 140) dX8_copy_140 ?_
  rw [pk_sub (by omega)]
  refine x_icmp_le (pc := 141) (tgt := 150) dX8_copy_141 (by decide) (fun h141 => ?_) (fun h141 => absurd h141 (by exact not_not_intro (nI_le (by omega) (by omega))))
  refine x_iload_n (pc := 150) (i := 2) dX8_copy_150 rfl rfl ?_
  refine x_iload (pc := 151) dX8_copy_151 rfl ?_
  refine x_icmp_ge (pc := 153) (tgt := 160) dX8_copy_153 (by decide) (fun h153 => ?_) (fun h153 => ?_)
  · have hij : j ≤ i := by have := h153; rw [nI_leI (by omega) (by omega)] at this; omega
    refine x_iconst (pc := 160) (v := 0) dX8_copy_160 (by decide) ?_
    refine x_istore (pc := 161) (L' := [_, _, _, _, _, _, _, _, _, _]) dX8_copy_161 (by decide) rfl ?_
    refine x_iconst (pc := 163) (v := 0) dX8_copy_163 (by decide) ?_
    refine x_istore (pc := 164) (L' := [_, _, _, _, _, _, _, _, _, _]) dX8_copy_164 (by decide) rfl ?_
    simp only [← arr_setF (w := w) (a := 44) (b := 47) (k := 0) 0]
    first | exact mJ.weak (wk_v (wk_v (wk_v (wk_v (wk_v (wk_v (wk_n (wk_v (wk_v (wk_v wk_0)))))))))) (copy_f hSw hk ho (by omega) (by omega) (by omega)) | exact mJ.weak (wk_v (wk_v (wk_v (wk_v (wk_v (wk_v (wk_n (wk_v (wk_v (wk_v wk_0)))))))))) (copy_b hSw hk ho (by omega) (by omega) (by omega))
  · have hij : i < j := by have := h153; rw [nI_leI (by omega) (by omega)] at this; omega
    refine x_iconst (pc := 156) (v := 1) dX8_copy_156 (by decide) ?_
    refine x_goto (pc := 157) (tgt := 161) dX8_copy_157 (by decide) ?_
    refine x_istore (pc := 161) (L' := [_, _, _, _, _, _, _, _, _, _]) dX8_copy_161 (by decide) rfl ?_
    refine x_iconst (pc := 163) (v := 0) dX8_copy_163 (by decide) ?_
    refine x_istore (pc := 164) (L' := [_, _, _, _, _, _, _, _, _, _]) dX8_copy_164 (by decide) rfl ?_
    simp only [← arr_setF (w := w) (a := 44) (b := 47) (k := 0) 0]
    first | exact mJ.weak (wk_v (wk_v (wk_v (wk_v (wk_v (wk_v (wk_n (wk_v (wk_v (wk_v wk_0)))))))))) (copy_f hSw hk ho (by omega) (by omega) (by omega)) | exact mJ.weak (wk_v (wk_v (wk_v (wk_v (wk_v (wk_v (wk_n (wk_v (wk_v (wk_v wk_0)))))))))) (copy_b hSw hk ho (by omega) (by omega) (by omega))

