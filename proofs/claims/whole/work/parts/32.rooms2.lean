/-- rooms: from 1 on -/
def rmX (w : mW) (b n : Nat) : Nat → Bool := fun v => decide (1 ≤ v) && soB (hX w (nI b) (holdsE (arr w 8 b) (nI v))) (arr w 42) (arr w 43) n
def kdX (w : mW) (b n : Nat) : Nat → Bool := fun v => soB (hX w (nI b) (holdsE (nI v) (arr w 9 b))) (arr w 42) (arr w 43) n
theorem rmX_e {w : mW} {b n k : Nat} (h : 1 ≤ k) : rmX w b n k = soB (hX w (nI b) (holdsE (arr w 8 b) (nI k))) (arr w 42) (arr w 43) n := by simp [rmX, h]
theorem c_X7_rooms_no {d : Nat} {w : mW} {b : Int32} (hS : Shape w) (h : ¬ (0 ≤ b ∧ b < fld w 7 0)) : mC (d + 1) kX7_rooms [.ref 0, .int b] w (fun r w' => r = some (.int (-1)) ∧ w' = w) := by
  refine mC.of (L := [_, _, _, _]) okX7_rooms 2 rfl rfl ?_
  refine x_aload_n (pc := 0) (i := 0) dX7_rooms_0 rfl rfl ?_
  refine x_getR (pc := 1) hS fX7_28 dX7_rooms_1 rfl rfl ?_
  refine x_iload_n (pc := 4) (i := 1) dX7_rooms_4 rfl rfl ?_
  refine x_vs (pc := 5) (As := [_]) rfl hS lX7_100 dX7_rooms_5 rfl rfl (Nat.le_of_ble_eq_true rfl) (c_X0_hasBarrow_7 hS) ?_
  rintro _ _ ⟨rfl, hq⟩
  obtain rfl := hq.symm
  refine x_pushI ?_
  refine x_if_ne (pc := 8) (tgt := 13) dX7_rooms_8 (by decide) (fun h8 => absurd h8 (by rw [b2_n0]; exact h)) (fun h8 => ?_)
  refine x_iconst (pc := 11) (v := (-1)) dX7_rooms_11 (by decide) ?_
  refine x_ri (pc := 12) dX7_rooms_12 rfl rfl ?_
  exact ⟨rfl, rfl⟩
theorem c_X7_rooms {d : Nat} {w : mW} {b n nb : Nat} (hS : Shape w) (tn : (fld w 40 3).toInt = (n : Int)) (hn : n ≤ 8) (tb : (fld w 7 0).toInt = (nb : Int)) (hnb : nb ≤ 5) (hb : b < nb) : mC (d + 3) kX7_rooms [.ref 0, .int (nI b)] w (fun r w' => r = some (.int (nI (bitsN (rmX w b n) 5))) ∧ w' = w) := by
  have lp : ∀ (m k : Nat), k ≤ 5 → 5 < k + m → 1 ≤ k → mJ mX0 (d + 3) kX7_rooms (fun r w' => r = some (.int (nI (bitsN (rmX w b n) 5))) ∧ w' = w) 17 [.ref 0, .int (nI b), .int (nI (bitsN (rmX w b n) k)), .int (nI k)] [] w := by
    intro m
    induction m with
    | zero => intro k h1 h2; omega
    | succ m ih =>
      intro k hk1 hk2 hk0
      have tk : (nI k).toInt = (k : Int) := nI_toInt (by omega)
      refine x_iload_n (pc := 17) (i := 3) dX7_rooms_17 rfl rfl ?_
      refine x_iconst (pc := 18) (v := 4) dX7_rooms_18 (by decide) ?_
      refine x_icmp_gt (pc := 19) (tgt := 62) dX7_rooms_19 (by decide) (fun h19 => ?_) (fun h19 => ?_)
      · refine x_iload_n (pc := 62) (i := 2) dX7_rooms_62 rfl rfl ?_
        refine x_ri (pc := 63) dX7_rooms_63 rfl rfl ?_
        exact ⟨by rw [show k = 5 by (try simp only [b2_e0, b2_n0, Decidable.not_not] at *) <;> (try simp only [i_lt, i_le, i_eq, not_and, not_or, ne_eq, il_0, il_1, il_2, il_3, il_4, il_5, il_6, il_7, il_8, il_9, il_10, il_14, il_15, il_19, il_20, il_24, il_30, il_31, il_44, il_48, il_49, il_52, il_57, il_59, il_60, il_70, il_99, il_100, il_103, il_108, il_114, il_m1, il_m2, il_m3, il_m4, il_m9, il_m10, il_m100] at *) <;> omega], rfl⟩
      · have hk5 : k < 5 := by (try simp only [b2_e0, b2_n0, Decidable.not_not] at *) <;> (try simp only [i_lt, i_le, i_eq, not_and, not_or, ne_eq, il_0, il_1, il_2, il_3, il_4, il_5, il_6, il_7, il_8, il_9, il_10, il_14, il_15, il_19, il_20, il_24, il_30, il_31, il_44, il_48, il_49, il_52, il_57, il_59, il_60, il_70, il_99, il_100, il_103, il_108, il_114, il_m1, il_m2, il_m3, il_m4, il_m9, il_m10, il_m100] at *) <;> omega
        refine x_aload_n (pc := 22) (i := 0) dX7_rooms_22 rfl rfl ?_
        refine x_getR (pc := 23) hS fX7_56 dX7_rooms_23 rfl rfl ?_
        refine x_aload_n (pc := 26) (i := 0) dX7_rooms_26 rfl rfl ?_
        refine x_getR (pc := 27) hS fX7_28 dX7_rooms_27 rfl rfl ?_
        refine x_iload_n (pc := 30) (i := 1) dX7_rooms_30 rfl rfl ?_
        refine x_aload_n (pc := 31) (i := 0) dX7_rooms_31 rfl rfl ?_
        refine x_getR (pc := 32) hS fX7_28 dX7_rooms_32 rfl rfl ?_
        refine x_getR (pc := 35) hS fX7_103 dX7_rooms_35 rfl rfl ?_
        refine x_iload_n (pc := 38) (i := 1) dX7_rooms_38 rfl rfl ?_
        refine x_aldN (pc := 39) hS dX7_rooms_39 rfl (by omega) (by decide) ?_
        refine x_iload_n (pc := 40) (i := 3) dX7_rooms_40 rfl rfl ?_
        refine x_ss (pc := 41) (As := [_, _]) rfl lX7_210 dX7_rooms_41 rfl (Nat.le_of_ble_eq_true rfl) c_X7_holdsAs ?_
        rintro _ _ ⟨rfl, hq⟩
        obtain rfl := hq.symm
        refine x_pushI ?_
        refine x_vs (pc := 44) (As := [_, _, _]) rfl hS lX7_213 dX7_rooms_44 rfl rfl (Nat.le_of_ble_eq_true rfl) (c_X3_areSo hS tn hn tb hnb) ?_
        rintro _ _ ⟨rfl, hq⟩
        obtain rfl := hq.symm
        refine x_pushI ?_
        refine x_if_eq (pc := 47) (tgt := 56) dX7_rooms_47 (by decide) (fun h47 => ?_) (fun h47 => ?_)
        · refine x_iinc (pc := 56) (L' := [_, _, _, _]) dX7_rooms_56 (by decide) rfl (by first | exact nI_inc _ | rfl) rfl ?_
          refine x_goto (pc := 59) (tgt := 17) dX7_rooms_59 (by decide) ?_
          have h9 := ih (k + 1) (by omega) (by omega) (by omega)
          by_cases hp : rmX w b n k = true
          · rw [← bitsN_t (p := rmX w b n) (k := k) (by omega) hp] at h9; first | exact h9 | exact absurd ((rmX_e hk0).symm.trans hp) (b2_e0.mp h47)
          · rw [bitsN_f (p := rmX w b n) (k := k) (by simpa using hp)] at h9; first | exact h9 | exact absurd ((rmX_e hk0).trans (b2_n0.mp h47)) hp
        · refine x_iload_n (pc := 50) (i := 2) dX7_rooms_50 rfl rfl ?_
          refine x_iconst (pc := 51) (v := 1) dX7_rooms_51 (by decide) ?_
          refine x_iload_n (pc := 52) (i := 3) dX7_rooms_52 rfl rfl ?_
          refine x_ishl (pc := 53) dX7_rooms_53 ?_
          refine x_ior (pc := 54) dX7_rooms_54 ?_
          refine x_istore_n (pc := 55) (i := 2) (L' := [_, _, _, _]) dX7_rooms_55 rfl (by decide) rfl ?_
          refine x_iinc (pc := 56) (L' := [_, _, _, _]) dX7_rooms_56 (by decide) rfl (by first | exact nI_inc _ | rfl) rfl ?_
          refine x_goto (pc := 59) (tgt := 17) dX7_rooms_59 (by decide) ?_
          have h9 := ih (k + 1) (by omega) (by omega) (by omega)
          by_cases hp : rmX w b n k = true
          · rw [← bitsN_t (p := rmX w b n) (k := k) (by omega) hp] at h9; first | exact h9 | exact absurd ((rmX_e hk0).symm.trans hp) (b2_e0.mp h47)
          · rw [bitsN_f (p := rmX w b n) (k := k) (by simpa using hp)] at h9; first | exact h9 | exact absurd ((rmX_e hk0).trans (b2_n0.mp h47)) hp
  have tk : (nI b).toInt = (b : Int) := nI_toInt (by omega)
  refine mC.of (L := [_, _, _, _]) okX7_rooms 2 rfl rfl ?_
  refine x_aload_n (pc := 0) (i := 0) dX7_rooms_0 rfl rfl ?_
  refine x_getR (pc := 1) hS fX7_28 dX7_rooms_1 rfl rfl ?_
  refine x_iload_n (pc := 4) (i := 1) dX7_rooms_4 rfl rfl ?_
  refine x_vs (pc := 5) (As := [_]) rfl hS lX7_100 dX7_rooms_5 rfl rfl (Nat.le_of_ble_eq_true rfl) (c_X0_hasBarrow_7 hS) ?_
  rintro _ _ ⟨rfl, hq⟩
  obtain rfl := hq.symm
  refine x_pushI ?_
  refine x_if_ne (pc := 8) (tgt := 13) dX7_rooms_8 (by decide) (fun h8 => ?_) (fun h8 => absurd h8 (by rw [b2_n0]; exact ⟨by (try simp only [b2_e0, b2_n0, Decidable.not_not] at *) <;> (try simp only [i_lt, i_le, i_eq, not_and, not_or, ne_eq, il_0, il_1, il_2, il_3, il_4, il_5, il_6, il_7, il_8, il_9, il_10, il_14, il_15, il_19, il_20, il_24, il_30, il_31, il_44, il_48, il_49, il_52, il_57, il_59, il_60, il_70, il_99, il_100, il_103, il_108, il_114, il_m1, il_m2, il_m3, il_m4, il_m9, il_m10, il_m100] at *) <;> omega, by (try simp only [b2_e0, b2_n0, Decidable.not_not] at *) <;> (try simp only [i_lt, i_le, i_eq, not_and, not_or, ne_eq, il_0, il_1, il_2, il_3, il_4, il_5, il_6, il_7, il_8, il_9, il_10, il_14, il_15, il_19, il_20, il_24, il_30, il_31, il_44, il_48, il_49, il_52, il_57, il_59, il_60, il_70, il_99, il_100, il_103, il_108, il_114, il_m1, il_m2, il_m3, il_m4, il_m9, il_m10, il_m100] at *) <;> omega⟩))
  refine x_iconst (pc := 13) (v := 0) dX7_rooms_13 (by decide) ?_
  refine x_istore_n (pc := 14) (i := 2) (L' := [_, _, _, _]) dX7_rooms_14 rfl (by decide) rfl ?_
  refine x_iconst (pc := 15) (v := 1) dX7_rooms_15 (by decide) ?_
  refine x_istore_n (pc := 16) (i := 3) (L' := [_, _, _, _]) dX7_rooms_16 rfl (by decide) rfl ?_
  exact lp 5 1 (by omega) (by omega) (by omega)
theorem c_X7_kinds_no {d : Nat} {w : mW} {b : Int32} (hS : Shape w) (h : ¬ (0 ≤ b ∧ b < fld w 7 0)) : mC (d + 1) kX7_kinds [.ref 0, .int b] w (fun r w' => r = some (.int (-1)) ∧ w' = w) := by
  refine mC.of (L := [_, _, _, _]) okX7_kinds 2 rfl rfl ?_
  refine x_aload_n (pc := 0) (i := 0) dX7_kinds_0 rfl rfl ?_
  refine x_getR (pc := 1) hS fX7_28 dX7_kinds_1 rfl rfl ?_
  refine x_iload_n (pc := 4) (i := 1) dX7_kinds_4 rfl rfl ?_
  refine x_vs (pc := 5) (As := [_]) rfl hS lX7_100 dX7_kinds_5 rfl rfl (Nat.le_of_ble_eq_true rfl) (c_X0_hasBarrow_7 hS) ?_
  rintro _ _ ⟨rfl, hq⟩
  obtain rfl := hq.symm
  refine x_pushI ?_
  refine x_if_ne (pc := 8) (tgt := 13) dX7_kinds_8 (by decide) (fun h8 => absurd h8 (by rw [b2_n0]; exact h)) (fun h8 => ?_)
  refine x_iconst (pc := 11) (v := (-1)) dX7_kinds_11 (by decide) ?_
  refine x_ri (pc := 12) dX7_kinds_12 rfl rfl ?_
  exact ⟨rfl, rfl⟩
theorem c_X7_kinds {d : Nat} {w : mW} {b n nb : Nat} (hS : Shape w) (tn : (fld w 40 3).toInt = (n : Int)) (hn : n ≤ 8) (tb : (fld w 7 0).toInt = (nb : Int)) (hnb : nb ≤ 5) (hb : b < nb) : mC (d + 3) kX7_kinds [.ref 0, .int (nI b)] w (fun r w' => r = some (.int (nI (bitsN (kdX w b n) 3))) ∧ w' = w) := by
  have lp : ∀ (m k : Nat), k ≤ 3 → 3 < k + m → mJ mX0 (d + 3) kX7_kinds (fun r w' => r = some (.int (nI (bitsN (kdX w b n) 3))) ∧ w' = w) 17 [.ref 0, .int (nI b), .int (nI (bitsN (kdX w b n) k)), .int (nI k)] [] w := by
    intro m
    induction m with
    | zero => intro k h1 h2; omega
    | succ m ih =>
      intro k hk1 hk2
      have tk : (nI k).toInt = (k : Int) := nI_toInt (by omega)
      refine x_iload_n (pc := 17) (i := 3) dX7_kinds_17 rfl rfl ?_
      refine x_iconst (pc := 18) (v := 2) dX7_kinds_18 (by decide) ?_
      refine x_icmp_gt (pc := 19) (tgt := 62) dX7_kinds_19 (by decide) (fun h19 => ?_) (fun h19 => ?_)
      · refine x_iload_n (pc := 62) (i := 2) dX7_kinds_62 rfl rfl ?_
        refine x_ri (pc := 63) dX7_kinds_63 rfl rfl ?_
        exact ⟨by rw [show k = 3 by (try simp only [b2_e0, b2_n0, Decidable.not_not] at *) <;> (try simp only [i_lt, i_le, i_eq, not_and, not_or, ne_eq, il_0, il_1, il_2, il_3, il_4, il_5, il_6, il_7, il_8, il_9, il_10, il_14, il_15, il_19, il_20, il_24, il_30, il_31, il_44, il_48, il_49, il_52, il_57, il_59, il_60, il_70, il_99, il_100, il_103, il_108, il_114, il_m1, il_m2, il_m3, il_m4, il_m9, il_m10, il_m100] at *) <;> omega], rfl⟩
      · have hk5 : k < 3 := by (try simp only [b2_e0, b2_n0, Decidable.not_not] at *) <;> (try simp only [i_lt, i_le, i_eq, not_and, not_or, ne_eq, il_0, il_1, il_2, il_3, il_4, il_5, il_6, il_7, il_8, il_9, il_10, il_14, il_15, il_19, il_20, il_24, il_30, il_31, il_44, il_48, il_49, il_52, il_57, il_59, il_60, il_70, il_99, il_100, il_103, il_108, il_114, il_m1, il_m2, il_m3, il_m4, il_m9, il_m10, il_m100] at *) <;> omega
        refine x_aload_n (pc := 22) (i := 0) dX7_kinds_22 rfl rfl ?_
        refine x_getR (pc := 23) hS fX7_56 dX7_kinds_23 rfl rfl ?_
        refine x_aload_n (pc := 26) (i := 0) dX7_kinds_26 rfl rfl ?_
        refine x_getR (pc := 27) hS fX7_28 dX7_kinds_27 rfl rfl ?_
        refine x_iload_n (pc := 30) (i := 1) dX7_kinds_30 rfl rfl ?_
        refine x_iload_n (pc := 31) (i := 3) dX7_kinds_31 rfl rfl ?_
        refine x_aload_n (pc := 32) (i := 0) dX7_kinds_32 rfl rfl ?_
        refine x_getR (pc := 33) hS fX7_28 dX7_kinds_33 rfl rfl ?_
        refine x_getR (pc := 36) hS fX7_107 dX7_kinds_36 rfl rfl ?_
        refine x_iload_n (pc := 39) (i := 1) dX7_kinds_39 rfl rfl ?_
        refine x_aldN (pc := 40) hS dX7_kinds_40 rfl (by omega) (by decide) ?_
        refine x_ss (pc := 41) (As := [_, _]) rfl lX7_210 dX7_kinds_41 rfl (Nat.le_of_ble_eq_true rfl) c_X7_holdsAs ?_
        rintro _ _ ⟨rfl, hq⟩
        obtain rfl := hq.symm
        refine x_pushI ?_
        refine x_vs (pc := 44) (As := [_, _, _]) rfl hS lX7_213 dX7_kinds_44 rfl rfl (Nat.le_of_ble_eq_true rfl) (c_X3_areSo hS tn hn tb hnb) ?_
        rintro _ _ ⟨rfl, hq⟩
        obtain rfl := hq.symm
        refine x_pushI ?_
        refine x_if_eq (pc := 47) (tgt := 56) dX7_kinds_47 (by decide) (fun h47 => ?_) (fun h47 => ?_)
        · refine x_iinc (pc := 56) (L' := [_, _, _, _]) dX7_kinds_56 (by decide) rfl (by first | exact nI_inc _ | rfl) rfl ?_
          refine x_goto (pc := 59) (tgt := 17) dX7_kinds_59 (by decide) ?_
          have h9 := ih (k + 1) (by omega) (by omega)
          by_cases hp : kdX w b n k = true
          · rw [← bitsN_t (p := kdX w b n) (k := k) (by omega) hp] at h9; first | exact h9 | exact absurd hp (b2_e0.mp h47)
          · rw [bitsN_f (p := kdX w b n) (k := k) (by simpa using hp)] at h9; first | exact h9 | exact absurd (b2_n0.mp h47) hp
        · refine x_iload_n (pc := 50) (i := 2) dX7_kinds_50 rfl rfl ?_
          refine x_iconst (pc := 51) (v := 1) dX7_kinds_51 (by decide) ?_
          refine x_iload_n (pc := 52) (i := 3) dX7_kinds_52 rfl rfl ?_
          refine x_ishl (pc := 53) dX7_kinds_53 ?_
          refine x_ior (pc := 54) dX7_kinds_54 ?_
          refine x_istore_n (pc := 55) (i := 2) (L' := [_, _, _, _]) dX7_kinds_55 rfl (by decide) rfl ?_
          refine x_iinc (pc := 56) (L' := [_, _, _, _]) dX7_kinds_56 (by decide) rfl (by first | exact nI_inc _ | rfl) rfl ?_
          refine x_goto (pc := 59) (tgt := 17) dX7_kinds_59 (by decide) ?_
          have h9 := ih (k + 1) (by omega) (by omega)
          by_cases hp : kdX w b n k = true
          · rw [← bitsN_t (p := kdX w b n) (k := k) (by omega) hp] at h9; first | exact h9 | exact absurd hp (b2_e0.mp h47)
          · rw [bitsN_f (p := kdX w b n) (k := k) (by simpa using hp)] at h9; first | exact h9 | exact absurd (b2_n0.mp h47) hp
  have tk : (nI b).toInt = (b : Int) := nI_toInt (by omega)
  refine mC.of (L := [_, _, _, _]) okX7_kinds 2 rfl rfl ?_
  refine x_aload_n (pc := 0) (i := 0) dX7_kinds_0 rfl rfl ?_
  refine x_getR (pc := 1) hS fX7_28 dX7_kinds_1 rfl rfl ?_
  refine x_iload_n (pc := 4) (i := 1) dX7_kinds_4 rfl rfl ?_
  refine x_vs (pc := 5) (As := [_]) rfl hS lX7_100 dX7_kinds_5 rfl rfl (Nat.le_of_ble_eq_true rfl) (c_X0_hasBarrow_7 hS) ?_
  rintro _ _ ⟨rfl, hq⟩
  obtain rfl := hq.symm
  refine x_pushI ?_
  refine x_if_ne (pc := 8) (tgt := 13) dX7_kinds_8 (by decide) (fun h8 => ?_) (fun h8 => absurd h8 (by rw [b2_n0]; exact ⟨by (try simp only [b2_e0, b2_n0, Decidable.not_not] at *) <;> (try simp only [i_lt, i_le, i_eq, not_and, not_or, ne_eq, il_0, il_1, il_2, il_3, il_4, il_5, il_6, il_7, il_8, il_9, il_10, il_14, il_15, il_19, il_20, il_24, il_30, il_31, il_44, il_48, il_49, il_52, il_57, il_59, il_60, il_70, il_99, il_100, il_103, il_108, il_114, il_m1, il_m2, il_m3, il_m4, il_m9, il_m10, il_m100] at *) <;> omega, by (try simp only [b2_e0, b2_n0, Decidable.not_not] at *) <;> (try simp only [i_lt, i_le, i_eq, not_and, not_or, ne_eq, il_0, il_1, il_2, il_3, il_4, il_5, il_6, il_7, il_8, il_9, il_10, il_14, il_15, il_19, il_20, il_24, il_30, il_31, il_44, il_48, il_49, il_52, il_57, il_59, il_60, il_70, il_99, il_100, il_103, il_108, il_114, il_m1, il_m2, il_m3, il_m4, il_m9, il_m10, il_m100] at *) <;> omega⟩))
  refine x_iconst (pc := 13) (v := 0) dX7_kinds_13 (by decide) ?_
  refine x_istore_n (pc := 14) (i := 2) (L' := [_, _, _, _]) dX7_kinds_14 rfl (by decide) rfl ?_
  refine x_iconst (pc := 15) (v := 0) dX7_kinds_15 (by decide) ?_
  refine x_istore_n (pc := 16) (i := 3) (L' := [_, _, _, _]) dX7_kinds_16 rfl (by decide) rfl ?_
  exact lp 4 0 (by omega) (by omega)
-- the reference
abbrev hMd (w : mW) (q : Nat) : Int32 := holdsE (arr w 48 (arr w 66 q).toNatClampNeg) (arr w 49 (arr w 66 q).toNatClampNeg)
theorem c_X8_areSo {d : Nat} {w : mW} {n nb : Nat} (hS : Shape w) (tn : (fld w 44 32).toInt = (n : Int)) (hn : n ≤ 8) (hnb : nb ≤ 5) (hwh : ∀ r, r < n → ∃ b, b < nb ∧ arr w 66 r = nI b) (hki : ∀ c, c < nb → arr w 48 c = 0 ∨ arr w 48 c = 1 ∨ arr w 48 c = 2) : mC (d + 2) kX8_areSo [.ref 44] w (fun r w' => r = some (.int (b2 (soB (hMd w) (arr w 67) (arr w 68) n = true))) ∧ w' = w) := by
  have lp : ∀ (m k : Nat), k ≤ n → n < k + m → soB (hMd w) (arr w 67) (arr w 68) k = true → mJ mX0 (d + 2) kX8_areSo (fun r w' => r = some (.int (b2 (soB (hMd w) (arr w 67) (arr w 68) n = true))) ∧ w' = w) 2 [.ref 44, .int (nI k), .null] [] w := by
    intro m
    induction m with
    | zero => intro k h1 h2; omega
    | succ m ih =>
      intro k hk1 hk2 hso
      have tk : (nI k).toInt = (k : Int) := nI_toInt (by omega)
      refine x_iload_n (pc := 2) (i := 1) dX8_areSo_2 rfl rfl ?_
      refine x_aload_n (pc := 3) (i := 0) dX8_areSo_3 rfl rfl ?_
      refine x_getI (pc := 4) hS fX8_131 dX8_areSo_4 rfl rfl ?_
      refine x_icmp_ge (pc := 7) (tgt := 53) dX8_areSo_7 (by decide) (fun h7 => ?_) (fun h7 => ?_)
      · refine x_iconst (pc := 53) (v := 1) dX8_areSo_53 (by decide) ?_
        refine x_ri (pc := 54) dX8_areSo_54 rfl rfl ?_
        have e := show k = n by (try simp only [b2_e0, b2_n0, Decidable.not_not] at *) <;> (try simp only [i_lt, i_le, i_eq, not_and, not_or, ne_eq, il_0, il_1, il_2, il_3, il_4, il_5, il_6, il_7, il_8, il_9, il_10, il_14, il_15, il_19, il_20, il_24, il_30, il_31, il_44, il_48, il_49, il_52, il_57, il_59, il_60, il_70, il_99, il_100, il_103, il_108, il_114, il_m1, il_m2, il_m3, il_m4, il_m9, il_m10, il_m100] at *) <;> omega
        subst e
        rw [b2_t hso]; exact ⟨rfl, rfl⟩
      · have hkn : k < n := by (try simp only [b2_e0, b2_n0, Decidable.not_not] at *) <;> (try simp only [i_lt, i_le, i_eq, not_and, not_or, ne_eq, il_0, il_1, il_2, il_3, il_4, il_5, il_6, il_7, il_8, il_9, il_10, il_14, il_15, il_19, il_20, il_24, il_30, il_31, il_44, il_48, il_49, il_52, il_57, il_59, il_60, il_70, il_99, il_100, il_103, il_108, il_114, il_m1, il_m2, il_m3, il_m4, il_m9, il_m10, il_m100] at *) <;> omega
        obtain ⟨c, hc, ec⟩ := hwh k hkn
        have cc : (arr w 66 k).toNatClampNeg = c := by rw [ec]; exact nI_clamp (by omega)
        have hkc := hki c hc
        have hh : hMd w k = holdsE (arr w 48 c) (arr w 49 c) := by simp only [hMd, cc]
        refine x_aload_n (pc := 10) (i := 0) dX8_areSo_10 rfl rfl ?_
        refine x_aload_n (pc := 11) (i := 0) dX8_areSo_11 rfl rfl ?_
        refine x_getR (pc := 12) hS fX8_73 dX8_areSo_12 rfl rfl ?_
        refine x_iload_n (pc := 15) (i := 1) dX8_areSo_15 rfl rfl ?_
        refine x_aldN (pc := 16) hS dX8_areSo_16 rfl (by omega) (by decide) ?_
        rw [ec]
        refine x_vs (pc := 17) (As := [_]) rfl hS lX8_155 dX8_areSo_17 rfl rfl (Nat.le_of_ble_eq_true rfl) (c_X8_holdsOf hS (by omega) hkc) ?_
        rintro _ _ ⟨rfl, hq⟩
        obtain rfl := hq.symm
        refine x_pushI ?_
        refine x_aload_n (pc := 20) (i := 0) dX8_areSo_20 rfl rfl ?_
        refine x_getR (pc := 21) hS fX8_76 dX8_areSo_21 rfl rfl ?_
        refine x_iload_n (pc := 24) (i := 1) dX8_areSo_24 rfl rfl ?_
        refine x_aldN (pc := 25) hS dX8_areSo_25 rfl (by omega) (by decide) ?_
        refine x_icmp_gt (pc := 26) (tgt := 33) dX8_areSo_26 (by decide) (fun h26 => ?_) (fun h26 => ?_)
        · refine x_iconst (pc := 33) (v := 0) dX8_areSo_33 (by decide) ?_
          refine x_istore_n (pc := 34) (i := 2) (L' := [_, _, _]) dX8_areSo_34 rfl (by decide) rfl ?_
          refine x_iload_n (pc := 35) (i := 2) dX8_areSo_35 rfl rfl ?_
          refine x_aload_n (pc := 36) (i := 0) dX8_areSo_36 rfl rfl ?_
          refine x_getR (pc := 37) hS fX8_79 dX8_areSo_37 rfl rfl ?_
          refine x_iload_n (pc := 40) (i := 1) dX8_areSo_40 rfl rfl ?_
          refine x_aldN (pc := 41) hS dX8_areSo_41 rfl (by omega) (by decide) ?_
          refine x_icmp_eq (pc := 42) (tgt := 47) dX8_areSo_42 (by decide) (fun h42 => ?_) (fun h42 => ?_)
          · refine x_iinc (pc := 47) (L' := [_, _, _]) dX8_areSo_47 (by decide) rfl (by first | exact nI_inc _ | rfl) rfl ?_
            refine x_goto (pc := 50) (tgt := 2) dX8_areSo_50 (by decide) ?_
            refine mJ.weak (wk_v (wk_v (wk_n wk_0))) (ih (k + 1) (by omega) (by omega) (soB_t hso ?_))
            rw [hh]
            first | (rw [if_pos (by (try simp only [b2_e0, b2_n0, Decidable.not_not] at *) <;> (try simp only [i_lt, i_le, i_eq, not_and, not_or, ne_eq, il_0, il_1, il_2, il_3, il_4, il_5, il_6, il_7, il_8, il_9, il_10, il_14, il_15, il_19, il_20, il_24, il_30, il_31, il_44, il_48, il_49, il_52, il_57, il_59, il_60, il_70, il_99, il_100, il_103, il_108, il_114, il_m1, il_m2, il_m3, il_m4, il_m9, il_m10, il_m100] at *) <;> omega)]; exact h42) | (rw [if_neg (by (try simp only [b2_e0, b2_n0, Decidable.not_not] at *) <;> (try simp only [i_lt, i_le, i_eq, not_and, not_or, ne_eq, il_0, il_1, il_2, il_3, il_4, il_5, il_6, il_7, il_8, il_9, il_10, il_14, il_15, il_19, il_20, il_24, il_30, il_31, il_44, il_48, il_49, il_52, il_57, il_59, il_60, il_70, il_99, il_100, il_103, il_108, il_114, il_m1, il_m2, il_m3, il_m4, il_m9, il_m10, il_m100] at *) <;> omega)]; exact h42)
          · refine x_iconst (pc := 45) (v := 0) dX8_areSo_45 (by decide) ?_
            refine x_ri (pc := 46) dX8_areSo_46 rfl rfl ?_
            rw [b2_f (by rw [soB_f (k := k) (by rw [hh]; first | (rw [if_pos (by (try simp only [b2_e0, b2_n0, Decidable.not_not] at *) <;> (try simp only [i_lt, i_le, i_eq, not_and, not_or, ne_eq, il_0, il_1, il_2, il_3, il_4, il_5, il_6, il_7, il_8, il_9, il_10, il_14, il_15, il_19, il_20, il_24, il_30, il_31, il_44, il_48, il_49, il_52, il_57, il_59, il_60, il_70, il_99, il_100, il_103, il_108, il_114, il_m1, il_m2, il_m3, il_m4, il_m9, il_m10, il_m100] at *) <;> omega)]; exact h42) | (rw [if_neg (by (try simp only [b2_e0, b2_n0, Decidable.not_not] at *) <;> (try simp only [i_lt, i_le, i_eq, not_and, not_or, ne_eq, il_0, il_1, il_2, il_3, il_4, il_5, il_6, il_7, il_8, il_9, il_10, il_14, il_15, il_19, il_20, il_24, il_30, il_31, il_44, il_48, il_49, il_52, il_57, il_59, il_60, il_70, il_99, il_100, il_103, il_108, il_114, il_m1, il_m2, il_m3, il_m4, il_m9, il_m10, il_m100] at *) <;> omega)]; exact h42)) hkn]; decide)]; exact ⟨rfl, rfl⟩
        · refine x_iconst (pc := 29) (v := 1) dX8_areSo_29 (by decide) ?_
          refine x_goto (pc := 30) (tgt := 34) dX8_areSo_30 (by decide) ?_
          refine x_istore_n (pc := 34) (i := 2) (L' := [_, _, _]) dX8_areSo_34 rfl (by decide) rfl ?_
          refine x_iload_n (pc := 35) (i := 2) dX8_areSo_35 rfl rfl ?_
          refine x_aload_n (pc := 36) (i := 0) dX8_areSo_36 rfl rfl ?_
          refine x_getR (pc := 37) hS fX8_79 dX8_areSo_37 rfl rfl ?_
          refine x_iload_n (pc := 40) (i := 1) dX8_areSo_40 rfl rfl ?_
          refine x_aldN (pc := 41) hS dX8_areSo_41 rfl (by omega) (by decide) ?_
          refine x_icmp_eq (pc := 42) (tgt := 47) dX8_areSo_42 (by decide) (fun h42 => ?_) (fun h42 => ?_)
          · refine x_iinc (pc := 47) (L' := [_, _, _]) dX8_areSo_47 (by decide) rfl (by first | exact nI_inc _ | rfl) rfl ?_
            refine x_goto (pc := 50) (tgt := 2) dX8_areSo_50 (by decide) ?_
            refine mJ.weak (wk_v (wk_v (wk_n wk_0))) (ih (k + 1) (by omega) (by omega) (soB_t hso ?_))
            rw [hh]
            first | (rw [if_pos (by (try simp only [b2_e0, b2_n0, Decidable.not_not] at *) <;> (try simp only [i_lt, i_le, i_eq, not_and, not_or, ne_eq, il_0, il_1, il_2, il_3, il_4, il_5, il_6, il_7, il_8, il_9, il_10, il_14, il_15, il_19, il_20, il_24, il_30, il_31, il_44, il_48, il_49, il_52, il_57, il_59, il_60, il_70, il_99, il_100, il_103, il_108, il_114, il_m1, il_m2, il_m3, il_m4, il_m9, il_m10, il_m100] at *) <;> omega)]; exact h42) | (rw [if_neg (by (try simp only [b2_e0, b2_n0, Decidable.not_not] at *) <;> (try simp only [i_lt, i_le, i_eq, not_and, not_or, ne_eq, il_0, il_1, il_2, il_3, il_4, il_5, il_6, il_7, il_8, il_9, il_10, il_14, il_15, il_19, il_20, il_24, il_30, il_31, il_44, il_48, il_49, il_52, il_57, il_59, il_60, il_70, il_99, il_100, il_103, il_108, il_114, il_m1, il_m2, il_m3, il_m4, il_m9, il_m10, il_m100] at *) <;> omega)]; exact h42)
          · refine x_iconst (pc := 45) (v := 0) dX8_areSo_45 (by decide) ?_
            refine x_ri (pc := 46) dX8_areSo_46 rfl rfl ?_
            rw [b2_f (by rw [soB_f (k := k) (by rw [hh]; first | (rw [if_pos (by (try simp only [b2_e0, b2_n0, Decidable.not_not] at *) <;> (try simp only [i_lt, i_le, i_eq, not_and, not_or, ne_eq, il_0, il_1, il_2, il_3, il_4, il_5, il_6, il_7, il_8, il_9, il_10, il_14, il_15, il_19, il_20, il_24, il_30, il_31, il_44, il_48, il_49, il_52, il_57, il_59, il_60, il_70, il_99, il_100, il_103, il_108, il_114, il_m1, il_m2, il_m3, il_m4, il_m9, il_m10, il_m100] at *) <;> omega)]; exact h42) | (rw [if_neg (by (try simp only [b2_e0, b2_n0, Decidable.not_not] at *) <;> (try simp only [i_lt, i_le, i_eq, not_and, not_or, ne_eq, il_0, il_1, il_2, il_3, il_4, il_5, il_6, il_7, il_8, il_9, il_10, il_14, il_15, il_19, il_20, il_24, il_30, il_31, il_44, il_48, il_49, il_52, il_57, il_59, il_60, il_70, il_99, il_100, il_103, il_108, il_114, il_m1, il_m2, il_m3, il_m4, il_m9, il_m10, il_m100] at *) <;> omega)]; exact h42)) hkn]; decide)]; exact ⟨rfl, rfl⟩
  refine mC.of (L := [_, _, _]) okX8_areSo 2 rfl rfl ?_
  refine x_iconst (pc := 0) (v := 0) dX8_areSo_0 (by decide) ?_
  refine x_istore_n (pc := 1) (i := 1) (L' := [_, _, _]) dX8_areSo_1 rfl (by decide) rfl ?_
  exact lp (n + 1) 0 (by omega) (by omega) rfl
theorem setA_setA (w : mW) (a : Nat) (f g : Nat → Int32) : setA (setA w a f) a g = setA w a g := by
  funext j
  unfold setA
  by_cases hj : j = a
  · subst hj
    simp only [if_true]
    cases hw : w j <;> rfl
  · simp only [if_neg hj]
theorem setA_self {w : mW} (h : Shape w) {a n : Nat} (hs : mShp[a]? = some (.inl n)) : setA w a (arr w a) = w := by
  funext j
  unfold setA
  by_cases hj : j = a
  · subst hj
    simp only [if_true]
    have hw := h.ar hs
    cases hq : w j with
    | inl p => simp [arr, hq]
    | inr o => rfl
  · simp only [if_neg hj]
theorem upd_upd (f : Nat → Int32) (k : Nat) (x y : Int32) : upd (upd f k x) k y = upd f k y := by
  funext j; unfold upd; split <;> simp_all
theorem upd_self (f : Nat → Int32) (k : Nat) : upd f k (f k) = f := by
  funext j; unfold upd; split <;> simp_all

