-- sheet, lose, put, cell: the reference
theorem k3 {k : Nat} (hk : k < 4) : (0 : Int32) ≤ nI k ∧ nI k ≤ 3 := ⟨nI_pos' (by omega), by rw [i_le, nI_toInt (by omega), il_3]; omega⟩
theorem c_X8_sheet_a {d : Nat} {w : mW} {k l n : Int32} (hS : Shape w) (h : ¬ (0 ≤ k ∧ k < 4)) : mC (d + 2) kX8_sheet [.ref 44, .int k, .int l, .int n] w (fun r w' => r = some (.int (-1)) ∧ w' = setF w 44 0 0) := by
  refine mC.of (L := [_, _, _, _, _]) okX8_sheet 1 rfl rfl ?_
  refine x_aload_n (pc := 0) (i := 0) dX8_sheet_0 rfl rfl ?_
  refine x_iconst (pc := 1) (v := 0) dX8_sheet_1 (by decide) ?_
  refine x_putI (pc := 2) hS fX8_82 dX8_sheet_2 rfl rfl rfl rfl (fun hS => ?_)
  refine x_iload_n (pc := 5) (i := 1) dX8_sheet_5 rfl rfl ?_
  refine x_ss (pc := 6) (As := [_]) rfl lX8_101 dX8_sheet_6 rfl (Nat.le_of_ble_eq_true rfl) c_X8_isSheet ?_
  rintro _ _ ⟨rfl, hq⟩
  obtain rfl := hq.symm
  refine x_pushI ?_
  refine x_if_ne (pc := 9) (tgt := 14) dX8_sheet_9 (by decide) (fun h9 => absurd h9 (by rw [b2_n0]; exact notIn h)) (fun h9 => ?_)
  refine x_iconst (pc := 12) (v := (-1)) dX8_sheet_12 (by decide) ?_
  refine x_ri (pc := 13) dX8_sheet_13 rfl rfl ?_
  exact ⟨rfl, rfl⟩
theorem c_X8_sheet_b {d : Nat} {w : mW} {l n : Int32} {k : Nat} (hS : Shape w) (hk : k < 4) (h : ¬ ((0 ≤ l ∧ l ≤ 2) ∧ n ≤ 60)) : mC (d + 2) kX8_sheet [.ref 44, .int (nI k), .int l, .int n] w (fun r w' => r = some (.int (-2)) ∧ w' = setF w 44 0 0) := by
  refine mC.of (L := [_, _, _, _, _]) okX8_sheet 1 rfl rfl ?_
  refine x_aload_n (pc := 0) (i := 0) dX8_sheet_0 rfl rfl ?_
  refine x_iconst (pc := 1) (v := 0) dX8_sheet_1 (by decide) ?_
  refine x_putI (pc := 2) hS fX8_82 dX8_sheet_2 rfl rfl rfl rfl (fun hS => ?_)
  refine x_iload_n (pc := 5) (i := 1) dX8_sheet_5 rfl rfl ?_
  refine x_ss (pc := 6) (As := [_]) rfl lX8_101 dX8_sheet_6 rfl (Nat.le_of_ble_eq_true rfl) c_X8_isSheet ?_
  rintro _ _ ⟨rfl, hq⟩
  obtain rfl := hq.symm
  refine x_pushI ?_
  refine x_if_ne (pc := 9) (tgt := 14) dX8_sheet_9 (by decide) (fun h9 => ?_) (fun h9 => absurd h9 (by rw [b2_n0]; exact k3 hk))
  refine x_iload_n (pc := 14) (i := 2) dX8_sheet_14 rfl rfl ?_
  refine x_ss (pc := 15) (As := [_]) rfl lX8_105 dX8_sheet_15 rfl (Nat.le_of_ble_eq_true rfl) c_X8_isSort ?_
  rintro _ _ ⟨rfl, hq⟩
  obtain rfl := hq.symm
  refine x_pushI ?_
  refine x_if_eq (pc := 18) (tgt := 27) dX8_sheet_18 (by decide) (fun h18 => ?_) (fun h18 => ?_)
  · refine x_bipush (pc := 27) (v := (-2)) dX8_sheet_27 (by decide) ?_
    refine x_ri (pc := 29) dX8_sheet_29 rfl rfl ?_
    exact ⟨rfl, rfl⟩
  · refine x_iload_n (pc := 21) (i := 3) dX8_sheet_21 rfl rfl ?_
    refine x_bipush (pc := 22) (v := 60) dX8_sheet_22 (by decide) ?_
    refine x_icmp_le (pc := 24) (tgt := 30) dX8_sheet_24 (by decide) (fun h24 => ?_) (fun h24 => ?_)
    · exfalso; (try simp only [b2_e0, b2_n0, Decidable.not_not] at *) <;> (try simp only [i_lt, i_le, i_eq, not_and, not_or, ne_eq, il_0, il_1, il_2, il_3, il_4, il_5, il_6, il_7, il_8, il_9, il_10, il_14, il_15, il_19, il_20, il_24, il_30, il_31, il_44, il_48, il_49, il_52, il_57, il_59, il_60, il_70, il_99, il_100, il_103, il_108, il_114, il_m1, il_m2, il_m3, il_m4, il_m9, il_m10, il_m100] at *) <;> omega
    · refine x_bipush (pc := 27) (v := (-2)) dX8_sheet_27 (by decide) ?_
      refine x_ri (pc := 29) dX8_sheet_29 rfl rfl ?_
      exact ⟨rfl, rfl⟩
theorem c_X8_sheet_c {d : Nat} {w : mW} {l n : Int32} {k : Nat} (hS : Shape w) (hk : k < 4) (h : (0 ≤ l ∧ l ≤ 2) ∧ n ≤ 60) (hn : n < 0) : mC (d + 2) kX8_sheet [.ref 44, .int (nI k), .int l, .int n] w (fun r w' => r = some (.int (-14)) ∧ w' = setF w 44 0 4) := by
  refine mC.of (L := [_, _, _, _, _]) okX8_sheet 1 rfl rfl ?_
  refine x_aload_n (pc := 0) (i := 0) dX8_sheet_0 rfl rfl ?_
  refine x_iconst (pc := 1) (v := 0) dX8_sheet_1 (by decide) ?_
  refine x_putI (pc := 2) hS fX8_82 dX8_sheet_2 rfl rfl rfl rfl (fun hS => ?_)
  refine x_iload_n (pc := 5) (i := 1) dX8_sheet_5 rfl rfl ?_
  refine x_ss (pc := 6) (As := [_]) rfl lX8_101 dX8_sheet_6 rfl (Nat.le_of_ble_eq_true rfl) c_X8_isSheet ?_
  rintro _ _ ⟨rfl, hq⟩
  obtain rfl := hq.symm
  refine x_pushI ?_
  refine x_if_ne (pc := 9) (tgt := 14) dX8_sheet_9 (by decide) (fun h9 => ?_) (fun h9 => absurd h9 (by rw [b2_n0]; exact k3 hk))
  refine x_iload_n (pc := 14) (i := 2) dX8_sheet_14 rfl rfl ?_
  refine x_ss (pc := 15) (As := [_]) rfl lX8_105 dX8_sheet_15 rfl (Nat.le_of_ble_eq_true rfl) c_X8_isSort ?_
  rintro _ _ ⟨rfl, hq⟩
  obtain rfl := hq.symm
  refine x_pushI ?_
  refine x_if_eq (pc := 18) (tgt := 27) dX8_sheet_18 (by decide) (fun h18 => absurd h18 (by rw [b2_e0]; exact not_not_intro h.1)) (fun h18 => ?_)
  refine x_iload_n (pc := 21) (i := 3) dX8_sheet_21 rfl rfl ?_
  refine x_bipush (pc := 22) (v := 60) dX8_sheet_22 (by decide) ?_
  refine x_icmp_le (pc := 24) (tgt := 30) dX8_sheet_24 (by decide) (fun h24 => ?_) (fun h24 => absurd h24 (by exact not_not_intro h.2))
  refine x_iload_n (pc := 30) (i := 3) dX8_sheet_30 rfl rfl ?_
  refine x_if_ge (pc := 31) (tgt := 40) dX8_sheet_31 (by decide) (fun h31 => absurd h31 (by (try simp only [b2_e0, b2_n0, Decidable.not_not] at *) <;> (try simp only [i_lt, i_le, i_eq, not_and, not_or, ne_eq, il_0, il_1, il_2, il_3, il_4, il_5, il_6, il_7, il_8, il_9, il_10, il_14, il_15, il_19, il_20, il_24, il_30, il_31, il_44, il_48, il_49, il_52, il_57, il_59, il_60, il_70, il_99, il_100, il_103, il_108, il_114, il_m1, il_m2, il_m3, il_m4, il_m9, il_m10, il_m100] at *) <;> omega)) (fun h31 => ?_)
  refine x_aload_n (pc := 34) (i := 0) dX8_sheet_34 rfl rfl ?_
  refine x_iconst (pc := 35) (v := 4) dX8_sheet_35 (by decide) ?_
  refine x_vs (pc := 36) (As := [_]) rfl hS lX8_112 dX8_sheet_36 rfl rfl (Nat.le_of_ble_eq_true rfl) (c_X8_fails hS) ?_
  rintro _ _ ⟨rfl, hq⟩
  obtain rfl := hq.symm
  refine x_pushI ?_
  refine x_ri (pc := 39) dX8_sheet_39 rfl rfl ?_
  exact ⟨rfl, by rw [setF_setF]⟩
theorem c_X8_sheet_d {d : Nat} {w0 : mW} {l : Int32} {k n : Nat} (hS0 : Shape w0) (hk : k < 4) (h : 0 ≤ l ∧ l ≤ 2) (hn : n ≤ 60) : mC (d + 2) kX8_sheet [.ref 44, .int (nI k), .int l, .int (nI n)] w0 (fun r w' => r = some (.int 1) ∧ w' = setA (setA (setA (setF w0 44 0 0) 45 (upd (arr w0 45) k l)) 46 (upd (arr w0 46) k (nI n))) 47 (zer (arr w0 47) (60 * k) 60)) := by
  have tn : (nI n).toInt = (n : Int) := nI_toInt (by omega)
  have e2 : ∀ a, arr (setF w0 44 0 0) a = arr w0 a := fun a => arr_setF 0
  simp only [← e2]
  have hSw := hS0.stF (a := 44) (k := 0) rfl rfl 0
  generalize hw : setF w0 44 0 0 = w at hSw
  have hS1 : Shape (setA (setA w 45 (upd (arr w 45) k l)) 46 (upd (arr w 46) k (nI n))) := (hSw.stA _ _).stA _ _
  have lp : ∀ (m i : Nat), i ≤ 60 → 60 < i + m → mJ mX0 (d + 2) kX8_sheet (fun r w' => r = some (.int 1) ∧ w' = setA (setA (setA w 45 (upd (arr w 45) k l)) 46 (upd (arr w 46) k (nI n))) 47 (zer (arr w 47) (60 * k) 60)) 57 [.ref 44, .int (nI k), .int l, .int (nI n), .int (nI i)] [] (setA (setA (setA w 45 (upd (arr w 45) k l)) 46 (upd (arr w 46) k (nI n))) 47 (zer (arr w 47) (60 * k) i)) := by
    intro m
    induction m with
    | zero => intro i h1 h2; omega
    | succ m ih =>
      intro i hi1 hi2
      have hS := hS1.stA 47 (zer (arr w 47) (60 * k) i)
      have ti : (nI i).toInt = (i : Int) := nI_toInt (by omega)
      refine x_iload (pc := 57) dX8_sheet_57 rfl ?_
      refine x_bipush (pc := 59) (v := 60) dX8_sheet_59 (by decide) ?_
      refine x_icmp_ge (pc := 61) (tgt := 83) dX8_sheet_61 (by decide) (fun h61 => ?_) (fun h61 => ?_)
      · refine x_iconst (pc := 83) (v := 1) dX8_sheet_83 (by decide) ?_
        refine x_ri (pc := 84) dX8_sheet_84 rfl rfl ?_
        have e := show i = 60 by (try simp only [b2_e0, b2_n0, Decidable.not_not] at *) <;> (try simp only [i_lt, i_le, i_eq, not_and, not_or, ne_eq, il_0, il_1, il_2, il_3, il_4, il_5, il_6, il_7, il_8, il_9, il_10, il_14, il_15, il_19, il_20, il_24, il_30, il_31, il_44, il_48, il_49, il_52, il_57, il_59, il_60, il_70, il_99, il_100, il_103, il_108, il_114, il_m1, il_m2, il_m3, il_m4, il_m9, il_m10, il_m100] at *) <;> omega
        subst e
        exact ⟨rfl, rfl⟩
      · have hin : i < 60 := by (try simp only [b2_e0, b2_n0, Decidable.not_not] at *) <;> (try simp only [i_lt, i_le, i_eq, not_and, not_or, ne_eq, il_0, il_1, il_2, il_3, il_4, il_5, il_6, il_7, il_8, il_9, il_10, il_14, il_15, il_19, il_20, il_24, il_30, il_31, il_44, il_48, il_49, il_52, il_57, il_59, il_60, il_70, il_99, il_100, il_103, il_108, il_114, il_m1, il_m2, il_m3, il_m4, il_m9, il_m10, il_m100] at *) <;> omega
        refine x_aload_n (pc := 64) (i := 0) dX8_sheet_64 rfl rfl ?_
        refine x_getR (pc := 65) hS fX8_16 dX8_sheet_65 rfl rfl ?_
        refine x_bipush (pc := 68) (v := 60) dX8_sheet_68 (by decide) ?_
        refine x_iload_n (pc := 70) (i := 1) dX8_sheet_70 rfl rfl ?_
        refine x_imul (pc := 71) dX8_sheet_71 ?_
        refine x_iload (pc := 72) dX8_sheet_72 rfl ?_
        refine x_iadd (pc := 74) dX8_sheet_74 ?_
        refine x_iconst (pc := 75) (v := 0) dX8_sheet_75 (by decide) ?_
        rw [ix60']
        refine x_astN (pc := 76) hS dX8_sheet_76 rfl (by omega) (by decide) (fun hS => ?_)
        rw [arr_setA hS1 rfl, setA_setA, zer_s]
        refine x_iinc (pc := 77) (L' := [_, _, _, _, _]) dX8_sheet_77 (by decide) rfl (by first | exact nI_inc _ | rfl) rfl ?_
        refine x_goto (pc := 80) (tgt := 57) dX8_sheet_80 (by decide) ?_
        exact ih (i + 1) (by (try simp only [b2_e0, b2_n0, Decidable.not_not] at *) <;> (try simp only [i_lt, i_le, i_eq, not_and, not_or, ne_eq, il_0, il_1, il_2, il_3, il_4, il_5, il_6, il_7, il_8, il_9, il_10, il_14, il_15, il_19, il_20, il_24, il_30, il_31, il_44, il_48, il_49, il_52, il_57, il_59, il_60, il_70, il_99, il_100, il_103, il_108, il_114, il_m1, il_m2, il_m3, il_m4, il_m9, il_m10, il_m100] at *) <;> omega) (by omega)
  have hfin := lp 61 0 (by omega) (by omega)
  rw [zer_0] at hfin
  have h8 : setA (setA (setA w 45 (upd (arr w 45) k l)) 46 (upd (arr w 46) k (nI n))) 47 (arr w 47) = setA (setA w 45 (upd (arr w 45) k l)) 46 (upd (arr w 46) k (nI n)) := by
    have := setA_self hS1 (a := 47) (n := 240) rfl
    rw [arr_setA_a (by decide), arr_setA_a (by decide)] at this
    exact this
  rw [h8] at hfin
  have hS := hS0
  refine mC.of (L := [_, _, _, _, _]) okX8_sheet 1 rfl rfl ?_
  refine x_aload_n (pc := 0) (i := 0) dX8_sheet_0 rfl rfl ?_
  refine x_iconst (pc := 1) (v := 0) dX8_sheet_1 (by decide) ?_
  refine x_putI (pc := 2) hS fX8_82 dX8_sheet_2 rfl rfl rfl rfl (fun hS => ?_)
  rw [hw]
  have hS := hSw
  refine x_iload_n (pc := 5) (i := 1) dX8_sheet_5 rfl rfl ?_
  refine x_ss (pc := 6) (As := [_]) rfl lX8_101 dX8_sheet_6 rfl (Nat.le_of_ble_eq_true rfl) c_X8_isSheet ?_
  rintro _ _ ⟨rfl, hq⟩
  obtain rfl := hq.symm
  refine x_pushI ?_
  refine x_if_ne (pc := 9) (tgt := 14) dX8_sheet_9 (by decide) (fun h9 => ?_) (fun h9 => absurd h9 (by rw [b2_n0]; exact k3 hk))
  refine x_iload_n (pc := 14) (i := 2) dX8_sheet_14 rfl rfl ?_
  refine x_ss (pc := 15) (As := [_]) rfl lX8_105 dX8_sheet_15 rfl (Nat.le_of_ble_eq_true rfl) c_X8_isSort ?_
  rintro _ _ ⟨rfl, hq⟩
  obtain rfl := hq.symm
  refine x_pushI ?_
  refine x_if_eq (pc := 18) (tgt := 27) dX8_sheet_18 (by decide) (fun h18 => absurd h18 (by rw [b2_e0]; exact not_not_intro h)) (fun h18 => ?_)
  refine x_iload_n (pc := 21) (i := 3) dX8_sheet_21 rfl rfl ?_
  refine x_bipush (pc := 22) (v := 60) dX8_sheet_22 (by decide) ?_
  refine x_icmp_le (pc := 24) (tgt := 30) dX8_sheet_24 (by decide) (fun h24 => ?_) (fun h24 => absurd h24 (by (try simp only [b2_e0, b2_n0, Decidable.not_not] at *) <;> (try simp only [i_lt, i_le, i_eq, not_and, not_or, ne_eq, il_0, il_1, il_2, il_3, il_4, il_5, il_6, il_7, il_8, il_9, il_10, il_14, il_15, il_19, il_20, il_24, il_30, il_31, il_44, il_48, il_49, il_52, il_57, il_59, il_60, il_70, il_99, il_100, il_103, il_108, il_114, il_m1, il_m2, il_m3, il_m4, il_m9, il_m10, il_m100] at *) <;> omega))
  refine x_iload_n (pc := 30) (i := 3) dX8_sheet_30 rfl rfl ?_
  refine x_if_ge (pc := 31) (tgt := 40) dX8_sheet_31 (by decide) (fun h31 => ?_) (fun h31 => absurd h31 (by (try simp only [b2_e0, b2_n0, Decidable.not_not] at *) <;> (try simp only [i_lt, i_le, i_eq, not_and, not_or, ne_eq, il_0, il_1, il_2, il_3, il_4, il_5, il_6, il_7, il_8, il_9, il_10, il_14, il_15, il_19, il_20, il_24, il_30, il_31, il_44, il_48, il_49, il_52, il_57, il_59, il_60, il_70, il_99, il_100, il_103, il_108, il_114, il_m1, il_m2, il_m3, il_m4, il_m9, il_m10, il_m100] at *) <;> omega))
  refine x_aload_n (pc := 40) (i := 0) dX8_sheet_40 rfl rfl ?_
  refine x_getR (pc := 41) hS fX8_9 dX8_sheet_41 rfl rfl ?_
  refine x_iload_n (pc := 44) (i := 1) dX8_sheet_44 rfl rfl ?_
  refine x_iload_n (pc := 45) (i := 2) dX8_sheet_45 rfl rfl ?_
  refine x_astN (pc := 46) hS dX8_sheet_46 rfl (by omega) (by decide) (fun hS => ?_)
  refine x_aload_n (pc := 47) (i := 0) dX8_sheet_47 rfl rfl ?_
  refine x_getR (pc := 48) hS fX8_13 dX8_sheet_48 rfl rfl ?_
  refine x_iload_n (pc := 51) (i := 1) dX8_sheet_51 rfl rfl ?_
  refine x_iload_n (pc := 52) (i := 3) dX8_sheet_52 rfl rfl ?_
  refine x_astN (pc := 53) hS dX8_sheet_53 rfl (by omega) (by decide) (fun hS => ?_)
  rw [arr_setA_a (by decide)]
  refine x_iconst (pc := 54) (v := 0) dX8_sheet_54 (by decide) ?_
  refine x_istore (pc := 55) (L' := [_, _, _, _, _]) dX8_sheet_55 (by decide) rfl ?_
  exact hfin
theorem c_X8_lose_a {d : Nat} {w : mW} {k : Int32} (hS : Shape w) (h : ¬ (0 ≤ k ∧ k < 4)) : mC (d + 2) kX8_lose [.ref 44, .int k] w (fun r w' => r = some (.int (-1)) ∧ w' = w) := by
  refine mC.of (L := [_, _, _]) okX8_lose 1 rfl rfl ?_
  refine x_iload_n (pc := 0) (i := 1) dX8_lose_0 rfl rfl ?_
  refine x_ss (pc := 1) (As := [_]) rfl lX8_101 dX8_lose_1 rfl (Nat.le_of_ble_eq_true rfl) c_X8_isSheet ?_
  rintro _ _ ⟨rfl, hq⟩
  obtain rfl := hq.symm
  refine x_pushI ?_
  refine x_if_ne (pc := 4) (tgt := 9) dX8_lose_4 (by decide) (fun h4 => absurd h4 (by rw [b2_n0]; exact notIn h)) (fun h4 => ?_)
  refine x_iconst (pc := 7) (v := (-1)) dX8_lose_7 (by decide) ?_
  refine x_ri (pc := 8) dX8_lose_8 rfl rfl ?_
  exact ⟨rfl, rfl⟩
theorem c_X8_lose_b {d : Nat} {w : mW} {k : Nat} (hS : Shape w) (hk : k < 4) : mC (d + 2) kX8_lose [.ref 44, .int (nI k)] w (fun r w' => r = some (.int (if arr w 45 k = -9 then 0 else 1)) ∧ w' = setA w 45 (upd (arr w 45) k (-9))) := by
  refine mC.of (L := [_, _, _]) okX8_lose 1 rfl rfl ?_
  refine x_iload_n (pc := 0) (i := 1) dX8_lose_0 rfl rfl ?_
  refine x_ss (pc := 1) (As := [_]) rfl lX8_101 dX8_lose_1 rfl (Nat.le_of_ble_eq_true rfl) c_X8_isSheet ?_
  rintro _ _ ⟨rfl, hq⟩
  obtain rfl := hq.symm
  refine x_pushI ?_
  refine x_if_ne (pc := 4) (tgt := 9) dX8_lose_4 (by decide) (fun h4 => ?_) (fun h4 => absurd h4 (by rw [b2_n0]; exact k3 hk))
  refine x_aload_n (pc := 9) (i := 0) dX8_lose_9 rfl rfl ?_
  refine x_getR (pc := 10) hS fX8_9 dX8_lose_10 rfl rfl ?_
  refine x_iload_n (pc := 13) (i := 1) dX8_lose_13 rfl rfl ?_
  refine x_aldN (pc := 14) hS dX8_lose_14 rfl (by omega) (by decide) ?_
  refine x_bipush (pc := 15) (v := (-9)) dX8_lose_15 (by decide) ?_
  refine x_icmp_ne (pc := 17) (tgt := 24) dX8_lose_17 (by decide) (fun h17 => ?_) (fun h17 => ?_)
  · refine x_iconst (pc := 24) (v := 1) dX8_lose_24 (by decide) ?_
    refine x_istore_n (pc := 25) (i := 2) (L' := [_, _, _]) dX8_lose_25 rfl (by decide) rfl ?_
    refine x_aload_n (pc := 26) (i := 0) dX8_lose_26 rfl rfl ?_
    refine x_getR (pc := 27) hS fX8_9 dX8_lose_27 rfl rfl ?_
    refine x_iload_n (pc := 30) (i := 1) dX8_lose_30 rfl rfl ?_
    refine x_bipush (pc := 31) (v := (-9)) dX8_lose_31 (by decide) ?_
    refine x_astN (pc := 33) hS dX8_lose_33 rfl (by omega) (by decide) (fun hS => ?_)
    refine x_iload_n (pc := 34) (i := 2) dX8_lose_34 rfl rfl ?_
    refine x_ri (pc := 35) dX8_lose_35 rfl rfl ?_
    first | (rw [if_pos h17]; exact ⟨rfl, rfl⟩) | (rw [if_neg h17]; exact ⟨rfl, rfl⟩)
  · refine x_iconst (pc := 20) (v := 0) dX8_lose_20 (by decide) ?_
    refine x_goto (pc := 21) (tgt := 25) dX8_lose_21 (by decide) ?_
    refine x_istore_n (pc := 25) (i := 2) (L' := [_, _, _]) dX8_lose_25 rfl (by decide) rfl ?_
    refine x_aload_n (pc := 26) (i := 0) dX8_lose_26 rfl rfl ?_
    refine x_getR (pc := 27) hS fX8_9 dX8_lose_27 rfl rfl ?_
    refine x_iload_n (pc := 30) (i := 1) dX8_lose_30 rfl rfl ?_
    refine x_bipush (pc := 31) (v := (-9)) dX8_lose_31 (by decide) ?_
    refine x_astN (pc := 33) hS dX8_lose_33 rfl (by omega) (by decide) (fun hS => ?_)
    refine x_iload_n (pc := 34) (i := 2) dX8_lose_34 rfl rfl ?_
    refine x_ri (pc := 35) dX8_lose_35 rfl rfl ?_
    first | (rw [if_pos h17]; exact ⟨rfl, rfl⟩) | (rw [if_neg h17]; exact ⟨rfl, rfl⟩)
theorem c_X8_put_a {d : Nat} {w : mW} {k i v : Int32} (hS : Shape w) (h : ¬ (0 ≤ k ∧ k < 4)) : mC (d + 2) kX8_put [.ref 44, .int k, .int i, .int v] w (fun r w' => r = some (.int (-1)) ∧ w' = setF w 44 0 0) := by
  refine mC.of (L := [_, _, _, _]) okX8_put 0 rfl rfl ?_
  refine x_aload_n (pc := 0) (i := 0) dX8_put_0 rfl rfl ?_
  refine x_iconst (pc := 1) (v := 0) dX8_put_1 (by decide) ?_
  refine x_putI (pc := 2) hS fX8_82 dX8_put_2 rfl rfl rfl rfl (fun hS => ?_)
  refine x_iload_n (pc := 5) (i := 1) dX8_put_5 rfl rfl ?_
  refine x_ss (pc := 6) (As := [_]) rfl lX8_101 dX8_put_6 rfl (Nat.le_of_ble_eq_true rfl) c_X8_isSheet ?_
  rintro _ _ ⟨rfl, hq⟩
  obtain rfl := hq.symm
  refine x_pushI ?_
  refine x_if_ne (pc := 9) (tgt := 14) dX8_put_9 (by decide) (fun h9 => absurd h9 (by rw [b2_n0]; exact notIn h)) (fun h9 => ?_)
  refine x_iconst (pc := 12) (v := (-1)) dX8_put_12 (by decide) ?_
  refine x_ri (pc := 13) dX8_put_13 rfl rfl ?_
  exact ⟨rfl, rfl⟩
theorem c_X8_put_b {d : Nat} {w : mW} {i v : Int32} {k : Nat} (hS : Shape w) (hk : k < 4) (h : arr w 45 k = -9) : mC (d + 2) kX8_put [.ref 44, .int (nI k), .int i, .int v] w (fun r w' => r = some (.int (-11)) ∧ w' = setF w 44 0 1) := by
  refine mC.of (L := [_, _, _, _]) okX8_put 0 rfl rfl ?_
  refine x_aload_n (pc := 0) (i := 0) dX8_put_0 rfl rfl ?_
  refine x_iconst (pc := 1) (v := 0) dX8_put_1 (by decide) ?_
  refine x_putI (pc := 2) hS fX8_82 dX8_put_2 rfl rfl rfl rfl (fun hS => ?_)
  refine x_iload_n (pc := 5) (i := 1) dX8_put_5 rfl rfl ?_
  refine x_ss (pc := 6) (As := [_]) rfl lX8_101 dX8_put_6 rfl (Nat.le_of_ble_eq_true rfl) c_X8_isSheet ?_
  rintro _ _ ⟨rfl, hq⟩
  obtain rfl := hq.symm
  refine x_pushI ?_
  refine x_if_ne (pc := 9) (tgt := 14) dX8_put_9 (by decide) (fun h9 => ?_) (fun h9 => absurd h9 (by rw [b2_n0]; exact k3 hk))
  refine x_aload_n (pc := 14) (i := 0) dX8_put_14 rfl rfl ?_
  refine x_getR (pc := 15) hS fX8_9 dX8_put_15 rfl rfl ?_
  refine x_iload_n (pc := 18) (i := 1) dX8_put_18 rfl rfl ?_
  refine x_aldN (pc := 19) hS dX8_put_19 rfl (by omega) (by decide) ?_
  refine x_bipush (pc := 20) (v := (-9)) dX8_put_20 (by decide) ?_
  refine x_icmp_ne (pc := 22) (tgt := 31) dX8_put_22 (by decide) (fun h22 => absurd h22 (by rw [arr_setF]; exact not_not_intro h)) (fun h22 => ?_)
  refine x_aload_n (pc := 25) (i := 0) dX8_put_25 rfl rfl ?_
  refine x_iconst (pc := 26) (v := 1) dX8_put_26 (by decide) ?_
  refine x_vs (pc := 27) (As := [_]) rfl hS lX8_112 dX8_put_27 rfl rfl (Nat.le_of_ble_eq_true rfl) (c_X8_fails hS) ?_
  rintro _ _ ⟨rfl, hq⟩
  obtain rfl := hq.symm
  refine x_pushI ?_
  refine x_ri (pc := 30) dX8_put_30 rfl rfl ?_
  exact ⟨rfl, by rw [setF_setF]⟩
theorem c_X8_put_c {d : Nat} {w : mW} {i v : Int32} {k : Nat} (hS : Shape w) (hk : k < 4) (h : ¬ arr w 45 k = -9) (hi : ¬ (0 ≤ i ∧ i ≤ arr w 46 k - 1)) : mC (d + 2) kX8_put [.ref 44, .int (nI k), .int i, .int v] w (fun r w' => r = some (.int (-13)) ∧ w' = setF w 44 0 3) := by
  refine mC.of (L := [_, _, _, _]) okX8_put 0 rfl rfl ?_
  refine x_aload_n (pc := 0) (i := 0) dX8_put_0 rfl rfl ?_
  refine x_iconst (pc := 1) (v := 0) dX8_put_1 (by decide) ?_
  refine x_putI (pc := 2) hS fX8_82 dX8_put_2 rfl rfl rfl rfl (fun hS => ?_)
  refine x_iload_n (pc := 5) (i := 1) dX8_put_5 rfl rfl ?_
  refine x_ss (pc := 6) (As := [_]) rfl lX8_101 dX8_put_6 rfl (Nat.le_of_ble_eq_true rfl) c_X8_isSheet ?_
  rintro _ _ ⟨rfl, hq⟩
  obtain rfl := hq.symm
  refine x_pushI ?_
  refine x_if_ne (pc := 9) (tgt := 14) dX8_put_9 (by decide) (fun h9 => ?_) (fun h9 => absurd h9 (by rw [b2_n0]; exact k3 hk))
  refine x_aload_n (pc := 14) (i := 0) dX8_put_14 rfl rfl ?_
  refine x_getR (pc := 15) hS fX8_9 dX8_put_15 rfl rfl ?_
  refine x_iload_n (pc := 18) (i := 1) dX8_put_18 rfl rfl ?_
  refine x_aldN (pc := 19) hS dX8_put_19 rfl (by omega) (by decide) ?_
  refine x_bipush (pc := 20) (v := (-9)) dX8_put_20 (by decide) ?_
  refine x_icmp_ne (pc := 22) (tgt := 31) dX8_put_22 (by decide) (fun h22 => ?_) (fun h22 => absurd h22 (by rw [arr_setF]; exact h))
  refine x_iload_n (pc := 31) (i := 2) dX8_put_31 rfl rfl ?_
  refine x_iconst (pc := 32) (v := 0) dX8_put_32 (by decide) ?_
  refine x_aload_n (pc := 33) (i := 0) dX8_put_33 rfl rfl ?_
  refine x_getR (pc := 34) hS fX8_13 dX8_put_34 rfl rfl ?_
  refine x_iload_n (pc := 37) (i := 1) dX8_put_37 rfl rfl ?_
  refine x_aldN (pc := 38) hS dX8_put_38 rfl (by omega) (by decide) ?_
  refine x_iconst (pc := 39) (v := 1) dX8_put_39 (by decide) ?_
  refine x_isub (pc := 40) dX8_put_40 ?_
  refine x_ss (pc := 41) (As := [_, _, _]) rfl lX8_88 dX8_put_41 rfl (Nat.le_of_ble_eq_true rfl) c_X8_within ?_
  rintro _ _ ⟨rfl, hq⟩
  obtain rfl := hq.symm
  refine x_pushI ?_
  refine x_if_ne (pc := 44) (tgt := 53) dX8_put_44 (by decide) (fun h44 => absurd h44 (by rw [b2_n0, arr_setF]; exact hi)) (fun h44 => ?_)
  refine x_aload_n (pc := 47) (i := 0) dX8_put_47 rfl rfl ?_
  refine x_iconst (pc := 48) (v := 3) dX8_put_48 (by decide) ?_
  refine x_vs (pc := 49) (As := [_]) rfl hS lX8_112 dX8_put_49 rfl rfl (Nat.le_of_ble_eq_true rfl) (c_X8_fails hS) ?_
  rintro _ _ ⟨rfl, hq⟩
  obtain rfl := hq.symm
  refine x_pushI ?_
  refine x_ri (pc := 52) dX8_put_52 rfl rfl ?_
  exact ⟨rfl, by rw [setF_setF]⟩
theorem c_X8_put_d {d : Nat} {w : mW} {v : Int32} {k i : Nat} (hS : Shape w) (hk : k < 4) (h : ¬ arr w 45 k = -9) (hi : 0 ≤ nI i ∧ nI i ≤ arr w 46 k - 1) (hi2 : i < 60) : mC (d + 2) kX8_put [.ref 44, .int (nI k), .int (nI i), .int v] w (fun r w' => r = some (.int 1) ∧ w' = setA (setF w 44 0 0) 47 (upd (arr w 47) (60 * k + i) (cutE v (arr w 45 k)))) := by
  refine mC.of (L := [_, _, _, _]) okX8_put 0 rfl rfl ?_
  refine x_aload_n (pc := 0) (i := 0) dX8_put_0 rfl rfl ?_
  refine x_iconst (pc := 1) (v := 0) dX8_put_1 (by decide) ?_
  refine x_putI (pc := 2) hS fX8_82 dX8_put_2 rfl rfl rfl rfl (fun hS => ?_)
  refine x_iload_n (pc := 5) (i := 1) dX8_put_5 rfl rfl ?_
  refine x_ss (pc := 6) (As := [_]) rfl lX8_101 dX8_put_6 rfl (Nat.le_of_ble_eq_true rfl) c_X8_isSheet ?_
  rintro _ _ ⟨rfl, hq⟩
  obtain rfl := hq.symm
  refine x_pushI ?_
  refine x_if_ne (pc := 9) (tgt := 14) dX8_put_9 (by decide) (fun h9 => ?_) (fun h9 => absurd h9 (by rw [b2_n0]; exact k3 hk))
  refine x_aload_n (pc := 14) (i := 0) dX8_put_14 rfl rfl ?_
  refine x_getR (pc := 15) hS fX8_9 dX8_put_15 rfl rfl ?_
  refine x_iload_n (pc := 18) (i := 1) dX8_put_18 rfl rfl ?_
  refine x_aldN (pc := 19) hS dX8_put_19 rfl (by omega) (by decide) ?_
  refine x_bipush (pc := 20) (v := (-9)) dX8_put_20 (by decide) ?_
  refine x_icmp_ne (pc := 22) (tgt := 31) dX8_put_22 (by decide) (fun h22 => ?_) (fun h22 => absurd h22 (by rw [arr_setF]; exact h))
  refine x_iload_n (pc := 31) (i := 2) dX8_put_31 rfl rfl ?_
  refine x_iconst (pc := 32) (v := 0) dX8_put_32 (by decide) ?_
  refine x_aload_n (pc := 33) (i := 0) dX8_put_33 rfl rfl ?_
  refine x_getR (pc := 34) hS fX8_13 dX8_put_34 rfl rfl ?_
  refine x_iload_n (pc := 37) (i := 1) dX8_put_37 rfl rfl ?_
  refine x_aldN (pc := 38) hS dX8_put_38 rfl (by omega) (by decide) ?_
  refine x_iconst (pc := 39) (v := 1) dX8_put_39 (by decide) ?_
  refine x_isub (pc := 40) dX8_put_40 ?_
  refine x_ss (pc := 41) (As := [_, _, _]) rfl lX8_88 dX8_put_41 rfl (Nat.le_of_ble_eq_true rfl) c_X8_within ?_
  rintro _ _ ⟨rfl, hq⟩
  obtain rfl := hq.symm
  refine x_pushI ?_
  refine x_if_ne (pc := 44) (tgt := 53) dX8_put_44 (by decide) (fun h44 => ?_) (fun h44 => absurd h44 (by rw [b2_n0, arr_setF]; exact hi))
  refine x_aload_n (pc := 53) (i := 0) dX8_put_53 rfl rfl ?_
  refine x_getR (pc := 54) hS fX8_16 dX8_put_54 rfl rfl ?_
  refine x_bipush (pc := 57) (v := 60) dX8_put_57 (by decide) ?_
  refine x_iload_n (pc := 59) (i := 1) dX8_put_59 rfl rfl ?_
  refine x_imul (pc := 60) dX8_put_60 ?_
  refine x_iload_n (pc := 61) (i := 2) dX8_put_61 rfl rfl ?_
  refine x_iadd (pc := 62) dX8_put_62 ?_
  rw [ix60']
  refine x_aload_n (pc := 63) (i := 0) dX8_put_63 rfl rfl ?_
  refine x_getR (pc := 64) hS fX8_9 dX8_put_64 rfl rfl ?_
  refine x_iload_n (pc := 67) (i := 1) dX8_put_67 rfl rfl ?_
  refine x_aldN (pc := 68) hS dX8_put_68 rfl (by omega) (by decide) ?_
  refine x_if_ne (pc := 69) (tgt := 77) dX8_put_69 (by decide) (fun h69 => ?_) (fun h69 => ?_)
  · rw [arr_setF] at h69
    refine x_aload_n (pc := 77) (i := 0) dX8_put_77 rfl rfl ?_
    refine x_getR (pc := 78) hS fX8_9 dX8_put_78 rfl rfl ?_
    refine x_iload_n (pc := 81) (i := 1) dX8_put_81 rfl rfl ?_
    refine x_aldN (pc := 82) hS dX8_put_82 rfl (by omega) (by decide) ?_
    refine x_iconst (pc := 83) (v := 1) dX8_put_83 (by decide) ?_
    refine x_icmp_ne (pc := 84) (tgt := 92) dX8_put_84 (by decide) (fun h84 => ?_) (fun h84 => ?_)
    · refine x_iload_n (pc := 92) (i := 3) dX8_put_92 rfl rfl ?_
      refine x_astN (pc := 93) hS dX8_put_93 rfl (by omega) (by decide) (fun hS => ?_)
      refine x_iconst (pc := 94) (v := 1) dX8_put_94 (by decide) ?_
      refine x_ri (pc := 95) dX8_put_95 rfl rfl ?_
      exact ⟨rfl, by rw [arr_setF]; unfold cutE; first | (rw [if_pos h69]; done) | (rw [arr_setF] at h84; rw [if_neg h69, if_pos h84]; done) | (rw [arr_setF] at h84; rw [if_neg h69, if_neg h84])⟩
    · refine x_iload_n (pc := 87) (i := 3) dX8_put_87 rfl rfl ?_
      refine x_i2s (pc := 88) dX8_put_88 rfl ?_
      refine x_goto (pc := 89) (tgt := 93) dX8_put_89 (by decide) ?_
      refine x_astN (pc := 93) hS dX8_put_93 rfl (by omega) (by decide) (fun hS => ?_)
      refine x_iconst (pc := 94) (v := 1) dX8_put_94 (by decide) ?_
      refine x_ri (pc := 95) dX8_put_95 rfl rfl ?_
      exact ⟨rfl, by rw [arr_setF]; unfold cutE; first | (rw [if_pos h69]; done) | (rw [arr_setF] at h84; rw [if_neg h69, if_pos h84]; done) | (rw [arr_setF] at h84; rw [if_neg h69, if_neg h84])⟩
  · rw [arr_setF] at h69
    refine x_iload_n (pc := 72) (i := 3) dX8_put_72 rfl rfl ?_
    refine x_i2b (pc := 73) dX8_put_73 rfl ?_
    refine x_goto (pc := 74) (tgt := 93) dX8_put_74 (by decide) ?_
    refine x_astN (pc := 93) hS dX8_put_93 rfl (by omega) (by decide) (fun hS => ?_)
    refine x_iconst (pc := 94) (v := 1) dX8_put_94 (by decide) ?_
    refine x_ri (pc := 95) dX8_put_95 rfl rfl ?_
    exact ⟨rfl, by rw [arr_setF]; unfold cutE; first | (rw [if_pos h69]; done) | (rw [arr_setF] at h84; rw [if_neg h69, if_pos h84]; done) | (rw [arr_setF] at h84; rw [if_neg h69, if_neg h84])⟩
theorem c_X8_cell_a {d : Nat} {w : mW} {k i l : Int32} (hS : Shape w) (h : ¬ ((0 ≤ k ∧ k < 4) ∧ 0 ≤ l ∧ l ≤ 2)) : mC (d + 2) kX8_cell [.ref 44, .int k, .int i, .int l] w (fun r w' => r = some (.long (-9223372036854775808)) ∧ w' = setF w 44 0 0) := by
  refine mC.of (L := [_, _, _, _]) okX8_cell 0 rfl rfl ?_
  refine x_aload_n (pc := 0) (i := 0) dX8_cell_0 rfl rfl ?_
  refine x_iconst (pc := 1) (v := 0) dX8_cell_1 (by decide) ?_
  refine x_putI (pc := 2) hS fX8_82 dX8_cell_2 rfl rfl rfl rfl (fun hS => ?_)
  refine x_iload_n (pc := 5) (i := 1) dX8_cell_5 rfl rfl ?_
  refine x_ss (pc := 6) (As := [_]) rfl lX8_101 dX8_cell_6 rfl (Nat.le_of_ble_eq_true rfl) c_X8_isSheet ?_
  rintro _ _ ⟨rfl, hq⟩
  obtain rfl := hq.symm
  refine x_pushI ?_
  refine x_if_eq (pc := 9) (tgt := 19) dX8_cell_9 (by decide) (fun h9 => ?_) (fun h9 => ?_)
  · refine x_ldc2 (pc := 19) dX8_cell_19 qX8_86 ?_
    refine x_rl (pc := 22) dX8_cell_22 rfl ?_
    exact ⟨rfl, rfl⟩
  · refine x_iload_n (pc := 12) (i := 3) dX8_cell_12 rfl rfl ?_
    refine x_ss (pc := 13) (As := [_]) rfl lX8_105 dX8_cell_13 rfl (Nat.le_of_ble_eq_true rfl) c_X8_isSort ?_
    rintro _ _ ⟨rfl, hq⟩
    obtain rfl := hq.symm
    refine x_pushI ?_
    refine x_if_ne (pc := 16) (tgt := 23) dX8_cell_16 (by decide) (fun h16 => ?_) (fun h16 => ?_)
    · exfalso; (try simp only [b2_e0, b2_n0, Decidable.not_not] at *) <;> (try simp only [i_lt, i_le, i_eq, not_and, not_or, ne_eq, il_0, il_1, il_2, il_3, il_4, il_5, il_6, il_7, il_8, il_9, il_10, il_14, il_15, il_19, il_20, il_24, il_30, il_31, il_44, il_48, il_49, il_52, il_57, il_59, il_60, il_70, il_99, il_100, il_103, il_108, il_114, il_m1, il_m2, il_m3, il_m4, il_m9, il_m10, il_m100] at *) <;> omega
    · refine x_ldc2 (pc := 19) dX8_cell_19 qX8_86 ?_
      refine x_rl (pc := 22) dX8_cell_22 rfl ?_
      exact ⟨rfl, rfl⟩
theorem c_X8_cell_b {d : Nat} {w : mW} {i l : Int32} {k : Nat} (hS : Shape w) (hk : k < 4) (hl : 0 ≤ l ∧ l ≤ 2) (h : ¬ arr w 45 k = -9) (h2 : ¬ arr w 45 k = l) : mC (d + 2) kX8_cell [.ref 44, .int (nI k), .int i, .int l] w (fun r w' => r = some (.long (-9223372036854775808)) ∧ w' = setF w 44 0 2) := by
  refine mC.of (L := [_, _, _, _]) okX8_cell 0 rfl rfl ?_
  refine x_aload_n (pc := 0) (i := 0) dX8_cell_0 rfl rfl ?_
  refine x_iconst (pc := 1) (v := 0) dX8_cell_1 (by decide) ?_
  refine x_putI (pc := 2) hS fX8_82 dX8_cell_2 rfl rfl rfl rfl (fun hS => ?_)
  refine x_iload_n (pc := 5) (i := 1) dX8_cell_5 rfl rfl ?_
  refine x_ss (pc := 6) (As := [_]) rfl lX8_101 dX8_cell_6 rfl (Nat.le_of_ble_eq_true rfl) c_X8_isSheet ?_
  rintro _ _ ⟨rfl, hq⟩
  obtain rfl := hq.symm
  refine x_pushI ?_
  refine x_if_eq (pc := 9) (tgt := 19) dX8_cell_9 (by decide) (fun h9 => absurd h9 (by rw [b2_e0]; exact not_not_intro (k3 hk))) (fun h9 => ?_)
  refine x_iload_n (pc := 12) (i := 3) dX8_cell_12 rfl rfl ?_
  refine x_ss (pc := 13) (As := [_]) rfl lX8_105 dX8_cell_13 rfl (Nat.le_of_ble_eq_true rfl) c_X8_isSort ?_
  rintro _ _ ⟨rfl, hq⟩
  obtain rfl := hq.symm
  refine x_pushI ?_
  refine x_if_ne (pc := 16) (tgt := 23) dX8_cell_16 (by decide) (fun h16 => ?_) (fun h16 => absurd h16 (by rw [b2_n0]; exact hl))
  refine x_aload_n (pc := 23) (i := 0) dX8_cell_23 rfl rfl ?_
  refine x_getR (pc := 24) hS fX8_9 dX8_cell_24 rfl rfl ?_
  refine x_iload_n (pc := 27) (i := 1) dX8_cell_27 rfl rfl ?_
  refine x_aldN (pc := 28) hS dX8_cell_28 rfl (by omega) (by decide) ?_
  refine x_bipush (pc := 29) (v := (-9)) dX8_cell_29 (by decide) ?_
  refine x_icmp_eq (pc := 31) (tgt := 50) dX8_cell_31 (by decide) (fun h31 => absurd h31 (by rw [arr_setF]; exact h)) (fun h31 => ?_)
  refine x_aload_n (pc := 34) (i := 0) dX8_cell_34 rfl rfl ?_
  refine x_getR (pc := 35) hS fX8_9 dX8_cell_35 rfl rfl ?_
  refine x_iload_n (pc := 38) (i := 1) dX8_cell_38 rfl rfl ?_
  refine x_aldN (pc := 39) hS dX8_cell_39 rfl (by omega) (by decide) ?_
  refine x_iload_n (pc := 40) (i := 3) dX8_cell_40 rfl rfl ?_
  refine x_icmp_eq (pc := 41) (tgt := 50) dX8_cell_41 (by decide) (fun h41 => absurd h41 (by rw [arr_setF]; exact h2)) (fun h41 => ?_)
  refine x_aload_n (pc := 44) (i := 0) dX8_cell_44 rfl rfl ?_
  refine x_iconst (pc := 45) (v := 2) dX8_cell_45 (by decide) ?_
  refine x_vs (pc := 46) (As := [_]) rfl hS lX8_245 dX8_cell_46 rfl rfl (Nat.le_of_ble_eq_true rfl) (c_X8_lost hS) ?_
  rintro _ _ ⟨rfl, hq⟩
  obtain rfl := hq.symm
  refine x_pushL ?_
  refine x_rl (pc := 49) dX8_cell_49 rfl ?_
  exact ⟨rfl, by rw [setF_setF]⟩
theorem c_X8_cell_n {d : Nat} {w : mW} {i l : Int32} {k : Nat} (hS : Shape w) (hk : k < 4) (hl : 0 ≤ l ∧ l ≤ 2) (h : arr w 45 k = -9) : mC (d + 2) kX8_cell [.ref 44, .int (nI k), .int i, .int l] w (fun r w' => r = some (.long (-9223372036854775808)) ∧ w' = setF w 44 0 1) := by
  refine mC.of (L := [_, _, _, _]) okX8_cell 0 rfl rfl ?_
  refine x_aload_n (pc := 0) (i := 0) dX8_cell_0 rfl rfl ?_
  refine x_iconst (pc := 1) (v := 0) dX8_cell_1 (by decide) ?_
  refine x_putI (pc := 2) hS fX8_82 dX8_cell_2 rfl rfl rfl rfl (fun hS => ?_)
  refine x_iload_n (pc := 5) (i := 1) dX8_cell_5 rfl rfl ?_
  refine x_ss (pc := 6) (As := [_]) rfl lX8_101 dX8_cell_6 rfl (Nat.le_of_ble_eq_true rfl) c_X8_isSheet ?_
  rintro _ _ ⟨rfl, hq⟩
  obtain rfl := hq.symm
  refine x_pushI ?_
  refine x_if_eq (pc := 9) (tgt := 19) dX8_cell_9 (by decide) (fun h9 => absurd h9 (by rw [b2_e0]; exact not_not_intro (k3 hk))) (fun h9 => ?_)
  refine x_iload_n (pc := 12) (i := 3) dX8_cell_12 rfl rfl ?_
  refine x_ss (pc := 13) (As := [_]) rfl lX8_105 dX8_cell_13 rfl (Nat.le_of_ble_eq_true rfl) c_X8_isSort ?_
  rintro _ _ ⟨rfl, hq⟩
  obtain rfl := hq.symm
  refine x_pushI ?_
  refine x_if_ne (pc := 16) (tgt := 23) dX8_cell_16 (by decide) (fun h16 => ?_) (fun h16 => absurd h16 (by rw [b2_n0]; exact hl))
  refine x_aload_n (pc := 23) (i := 0) dX8_cell_23 rfl rfl ?_
  refine x_getR (pc := 24) hS fX8_9 dX8_cell_24 rfl rfl ?_
  refine x_iload_n (pc := 27) (i := 1) dX8_cell_27 rfl rfl ?_
  refine x_aldN (pc := 28) hS dX8_cell_28 rfl (by omega) (by decide) ?_
  refine x_bipush (pc := 29) (v := (-9)) dX8_cell_29 (by decide) ?_
  refine x_icmp_eq (pc := 31) (tgt := 50) dX8_cell_31 (by decide) (fun h31 => ?_) (fun h31 => absurd h31 (by rw [arr_setF]; exact not_not_intro h))
  refine x_aload_n (pc := 50) (i := 0) dX8_cell_50 rfl rfl ?_
  refine x_getR (pc := 51) hS fX8_9 dX8_cell_51 rfl rfl ?_
  refine x_iload_n (pc := 54) (i := 1) dX8_cell_54 rfl rfl ?_
  refine x_aldN (pc := 55) hS dX8_cell_55 rfl (by omega) (by decide) ?_
  refine x_bipush (pc := 56) (v := (-9)) dX8_cell_56 (by decide) ?_
  refine x_icmp_ne (pc := 58) (tgt := 67) dX8_cell_58 (by decide) (fun h58 => absurd h58 (by rw [arr_setF]; exact not_not_intro h)) (fun h58 => ?_)
  refine x_aload_n (pc := 61) (i := 0) dX8_cell_61 rfl rfl ?_
  refine x_iconst (pc := 62) (v := 1) dX8_cell_62 (by decide) ?_
  refine x_vs (pc := 63) (As := [_]) rfl hS lX8_245 dX8_cell_63 rfl rfl (Nat.le_of_ble_eq_true rfl) (c_X8_lost hS) ?_
  rintro _ _ ⟨rfl, hq⟩
  obtain rfl := hq.symm
  refine x_pushL ?_
  refine x_rl (pc := 66) dX8_cell_66 rfl ?_
  exact ⟨rfl, by rw [setF_setF]⟩
theorem c_X8_cell_c {d : Nat} {w : mW} {i l : Int32} {k : Nat} (hS : Shape w) (hk : k < 4) (hl : 0 ≤ l ∧ l ≤ 2) (h : ¬ arr w 45 k = -9) (h2 : arr w 45 k = l) (hi : ¬ (0 ≤ i ∧ i ≤ arr w 46 k - 1)) : mC (d + 2) kX8_cell [.ref 44, .int (nI k), .int i, .int l] w (fun r w' => r = some (.long (-9223372036854775808)) ∧ w' = setF w 44 0 3) := by
  refine mC.of (L := [_, _, _, _]) okX8_cell 0 rfl rfl ?_
  refine x_aload_n (pc := 0) (i := 0) dX8_cell_0 rfl rfl ?_
  refine x_iconst (pc := 1) (v := 0) dX8_cell_1 (by decide) ?_
  refine x_putI (pc := 2) hS fX8_82 dX8_cell_2 rfl rfl rfl rfl (fun hS => ?_)
  refine x_iload_n (pc := 5) (i := 1) dX8_cell_5 rfl rfl ?_
  refine x_ss (pc := 6) (As := [_]) rfl lX8_101 dX8_cell_6 rfl (Nat.le_of_ble_eq_true rfl) c_X8_isSheet ?_
  rintro _ _ ⟨rfl, hq⟩
  obtain rfl := hq.symm
  refine x_pushI ?_
  refine x_if_eq (pc := 9) (tgt := 19) dX8_cell_9 (by decide) (fun h9 => absurd h9 (by rw [b2_e0]; exact not_not_intro (k3 hk))) (fun h9 => ?_)
  refine x_iload_n (pc := 12) (i := 3) dX8_cell_12 rfl rfl ?_
  refine x_ss (pc := 13) (As := [_]) rfl lX8_105 dX8_cell_13 rfl (Nat.le_of_ble_eq_true rfl) c_X8_isSort ?_
  rintro _ _ ⟨rfl, hq⟩
  obtain rfl := hq.symm
  refine x_pushI ?_
  refine x_if_ne (pc := 16) (tgt := 23) dX8_cell_16 (by decide) (fun h16 => ?_) (fun h16 => absurd h16 (by rw [b2_n0]; exact hl))
  refine x_aload_n (pc := 23) (i := 0) dX8_cell_23 rfl rfl ?_
  refine x_getR (pc := 24) hS fX8_9 dX8_cell_24 rfl rfl ?_
  refine x_iload_n (pc := 27) (i := 1) dX8_cell_27 rfl rfl ?_
  refine x_aldN (pc := 28) hS dX8_cell_28 rfl (by omega) (by decide) ?_
  refine x_bipush (pc := 29) (v := (-9)) dX8_cell_29 (by decide) ?_
  refine x_icmp_eq (pc := 31) (tgt := 50) dX8_cell_31 (by decide) (fun h31 => absurd h31 (by rw [arr_setF]; exact h)) (fun h31 => ?_)
  refine x_aload_n (pc := 34) (i := 0) dX8_cell_34 rfl rfl ?_
  refine x_getR (pc := 35) hS fX8_9 dX8_cell_35 rfl rfl ?_
  refine x_iload_n (pc := 38) (i := 1) dX8_cell_38 rfl rfl ?_
  refine x_aldN (pc := 39) hS dX8_cell_39 rfl (by omega) (by decide) ?_
  refine x_iload_n (pc := 40) (i := 3) dX8_cell_40 rfl rfl ?_
  refine x_icmp_eq (pc := 41) (tgt := 50) dX8_cell_41 (by decide) (fun h41 => ?_) (fun h41 => absurd h41 (by rw [arr_setF]; exact not_not_intro h2))
  refine x_aload_n (pc := 50) (i := 0) dX8_cell_50 rfl rfl ?_
  refine x_getR (pc := 51) hS fX8_9 dX8_cell_51 rfl rfl ?_
  refine x_iload_n (pc := 54) (i := 1) dX8_cell_54 rfl rfl ?_
  refine x_aldN (pc := 55) hS dX8_cell_55 rfl (by omega) (by decide) ?_
  refine x_bipush (pc := 56) (v := (-9)) dX8_cell_56 (by decide) ?_
  refine x_icmp_ne (pc := 58) (tgt := 67) dX8_cell_58 (by decide) (fun h58 => ?_) (fun h58 => absurd h58 (by rw [arr_setF]; exact h))
  refine x_iload_n (pc := 67) (i := 2) dX8_cell_67 rfl rfl ?_
  refine x_iconst (pc := 68) (v := 0) dX8_cell_68 (by decide) ?_
  refine x_aload_n (pc := 69) (i := 0) dX8_cell_69 rfl rfl ?_
  refine x_getR (pc := 70) hS fX8_13 dX8_cell_70 rfl rfl ?_
  refine x_iload_n (pc := 73) (i := 1) dX8_cell_73 rfl rfl ?_
  refine x_aldN (pc := 74) hS dX8_cell_74 rfl (by omega) (by decide) ?_
  refine x_iconst (pc := 75) (v := 1) dX8_cell_75 (by decide) ?_
  refine x_isub (pc := 76) dX8_cell_76 ?_
  refine x_ss (pc := 77) (As := [_, _, _]) rfl lX8_88 dX8_cell_77 rfl (Nat.le_of_ble_eq_true rfl) c_X8_within ?_
  rintro _ _ ⟨rfl, hq⟩
  obtain rfl := hq.symm
  refine x_pushI ?_
  refine x_if_ne (pc := 80) (tgt := 89) dX8_cell_80 (by decide) (fun h80 => absurd h80 (by rw [b2_n0, arr_setF]; exact hi)) (fun h80 => ?_)
  refine x_aload_n (pc := 83) (i := 0) dX8_cell_83 rfl rfl ?_
  refine x_iconst (pc := 84) (v := 3) dX8_cell_84 (by decide) ?_
  refine x_vs (pc := 85) (As := [_]) rfl hS lX8_245 dX8_cell_85 rfl rfl (Nat.le_of_ble_eq_true rfl) (c_X8_lost hS) ?_
  rintro _ _ ⟨rfl, hq⟩
  obtain rfl := hq.symm
  refine x_pushL ?_
  refine x_rl (pc := 88) dX8_cell_88 rfl ?_
  exact ⟨rfl, by rw [setF_setF]⟩
theorem c_X8_cell_d {d : Nat} {w : mW} {l : Int32} {k i : Nat} (hS : Shape w) (hk : k < 4) (hl : 0 ≤ l ∧ l ≤ 2) (h : ¬ arr w 45 k = -9) (h2 : arr w 45 k = l) (hi : 0 ≤ nI i ∧ nI i ≤ arr w 46 k - 1) (hi2 : i < 60) : mC (d + 2) kX8_cell [.ref 44, .int (nI k), .int (nI i), .int l] w (fun r w' => r = some (.long (arr w 47 (60 * k + i)).toInt64) ∧ w' = setF w 44 0 0) := by
  refine mC.of (L := [_, _, _, _]) okX8_cell 0 rfl rfl ?_
  refine x_aload_n (pc := 0) (i := 0) dX8_cell_0 rfl rfl ?_
  refine x_iconst (pc := 1) (v := 0) dX8_cell_1 (by decide) ?_
  refine x_putI (pc := 2) hS fX8_82 dX8_cell_2 rfl rfl rfl rfl (fun hS => ?_)
  refine x_iload_n (pc := 5) (i := 1) dX8_cell_5 rfl rfl ?_
  refine x_ss (pc := 6) (As := [_]) rfl lX8_101 dX8_cell_6 rfl (Nat.le_of_ble_eq_true rfl) c_X8_isSheet ?_
  rintro _ _ ⟨rfl, hq⟩
  obtain rfl := hq.symm
  refine x_pushI ?_
  refine x_if_eq (pc := 9) (tgt := 19) dX8_cell_9 (by decide) (fun h9 => absurd h9 (by rw [b2_e0]; exact not_not_intro (k3 hk))) (fun h9 => ?_)
  refine x_iload_n (pc := 12) (i := 3) dX8_cell_12 rfl rfl ?_
  refine x_ss (pc := 13) (As := [_]) rfl lX8_105 dX8_cell_13 rfl (Nat.le_of_ble_eq_true rfl) c_X8_isSort ?_
  rintro _ _ ⟨rfl, hq⟩
  obtain rfl := hq.symm
  refine x_pushI ?_
  refine x_if_ne (pc := 16) (tgt := 23) dX8_cell_16 (by decide) (fun h16 => ?_) (fun h16 => absurd h16 (by rw [b2_n0]; exact hl))
  refine x_aload_n (pc := 23) (i := 0) dX8_cell_23 rfl rfl ?_
  refine x_getR (pc := 24) hS fX8_9 dX8_cell_24 rfl rfl ?_
  refine x_iload_n (pc := 27) (i := 1) dX8_cell_27 rfl rfl ?_
  refine x_aldN (pc := 28) hS dX8_cell_28 rfl (by omega) (by decide) ?_
  refine x_bipush (pc := 29) (v := (-9)) dX8_cell_29 (by decide) ?_
  refine x_icmp_eq (pc := 31) (tgt := 50) dX8_cell_31 (by decide) (fun h31 => absurd h31 (by rw [arr_setF]; exact h)) (fun h31 => ?_)
  refine x_aload_n (pc := 34) (i := 0) dX8_cell_34 rfl rfl ?_
  refine x_getR (pc := 35) hS fX8_9 dX8_cell_35 rfl rfl ?_
  refine x_iload_n (pc := 38) (i := 1) dX8_cell_38 rfl rfl ?_
  refine x_aldN (pc := 39) hS dX8_cell_39 rfl (by omega) (by decide) ?_
  refine x_iload_n (pc := 40) (i := 3) dX8_cell_40 rfl rfl ?_
  refine x_icmp_eq (pc := 41) (tgt := 50) dX8_cell_41 (by decide) (fun h41 => ?_) (fun h41 => absurd h41 (by rw [arr_setF]; exact not_not_intro h2))
  refine x_aload_n (pc := 50) (i := 0) dX8_cell_50 rfl rfl ?_
  refine x_getR (pc := 51) hS fX8_9 dX8_cell_51 rfl rfl ?_
  refine x_iload_n (pc := 54) (i := 1) dX8_cell_54 rfl rfl ?_
  refine x_aldN (pc := 55) hS dX8_cell_55 rfl (by omega) (by decide) ?_
  refine x_bipush (pc := 56) (v := (-9)) dX8_cell_56 (by decide) ?_
  refine x_icmp_ne (pc := 58) (tgt := 67) dX8_cell_58 (by decide) (fun h58 => ?_) (fun h58 => absurd h58 (by rw [arr_setF]; exact h))
  refine x_iload_n (pc := 67) (i := 2) dX8_cell_67 rfl rfl ?_
  refine x_iconst (pc := 68) (v := 0) dX8_cell_68 (by decide) ?_
  refine x_aload_n (pc := 69) (i := 0) dX8_cell_69 rfl rfl ?_
  refine x_getR (pc := 70) hS fX8_13 dX8_cell_70 rfl rfl ?_
  refine x_iload_n (pc := 73) (i := 1) dX8_cell_73 rfl rfl ?_
  refine x_aldN (pc := 74) hS dX8_cell_74 rfl (by omega) (by decide) ?_
  refine x_iconst (pc := 75) (v := 1) dX8_cell_75 (by decide) ?_
  refine x_isub (pc := 76) dX8_cell_76 ?_
  refine x_ss (pc := 77) (As := [_, _, _]) rfl lX8_88 dX8_cell_77 rfl (Nat.le_of_ble_eq_true rfl) c_X8_within ?_
  rintro _ _ ⟨rfl, hq⟩
  obtain rfl := hq.symm
  refine x_pushI ?_
  refine x_if_ne (pc := 80) (tgt := 89) dX8_cell_80 (by decide) (fun h80 => ?_) (fun h80 => absurd h80 (by rw [b2_n0, arr_setF]; exact hi))
  refine x_aload_n (pc := 89) (i := 0) dX8_cell_89 rfl rfl ?_
  refine x_getR (pc := 90) hS fX8_16 dX8_cell_90 rfl rfl ?_
  refine x_bipush (pc := 93) (v := 60) dX8_cell_93 (by decide) ?_
  refine x_iload_n (pc := 95) (i := 1) dX8_cell_95 rfl rfl ?_
  refine x_imul (pc := 96) dX8_cell_96 ?_
  refine x_iload_n (pc := 97) (i := 2) dX8_cell_97 rfl rfl ?_
  refine x_iadd (pc := 98) dX8_cell_98 ?_
  rw [ix60']
  refine x_aldN (pc := 99) hS dX8_cell_99 rfl (by omega) (by decide) ?_
  refine x_i2l (pc := 100) dX8_cell_100 rfl ?_
  refine x_rl (pc := 101) dX8_cell_101 rfl ?_
  exact ⟨by rw [arr_setF], rfl⟩

