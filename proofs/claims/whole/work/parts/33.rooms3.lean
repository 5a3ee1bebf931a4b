def rmM (w : mW) (b n : Nat) : Nat → Bool := fun v => decide (1 ≤ v) && soB (hMd (setA w 49 (upd (arr w 49) b (nI v)))) (arr w 67) (arr w 68) n
theorem rmM_e {w : mW} {b n k : Nat} (h : 1 ≤ k) : rmM w b n k = soB (hMd (setA w 49 (upd (arr w 49) b (nI k)))) (arr w 67) (arr w 68) n := by simp [rmM, h]
def kdM (w : mW) (b n : Nat) : Nat → Bool := fun v => soB (hMd (setA w 48 (upd (arr w 48) b (nI v)))) (arr w 67) (arr w 68) n
theorem c_X8_rooms_no {d : Nat} {w : mW} {b : Int32} (hS : Shape w) (h : ¬ (0 ≤ b ∧ b < fld w 44 5)) : mC (d + 1) kX8_rooms [.ref 44, .int b] w (fun r w' => r = some (.int (-1)) ∧ w' = w) := by
  refine mC.of (L := [_, _, _, _, _]) okX8_rooms 3 rfl rfl ?_
  refine x_aload_n (pc := 0) (i := 0) dX8_rooms_0 rfl rfl ?_
  refine x_iload_n (pc := 1) (i := 1) dX8_rooms_1 rfl rfl ?_
  refine x_vs (pc := 2) (As := [_]) rfl hS lX8_152 dX8_rooms_2 rfl rfl (Nat.le_of_ble_eq_true rfl) (c_X8_isBarrow hS) ?_
  rintro _ _ ⟨rfl, hq⟩
  obtain rfl := hq.symm
  refine x_pushI ?_
  refine x_if_ne (pc := 5) (tgt := 10) dX8_rooms_5 (by decide) (fun h5 => absurd h5 (by rw [b2_n0]; exact h)) (fun h5 => ?_)
  refine x_iconst (pc := 8) (v := (-1)) dX8_rooms_8 (by decide) ?_
  refine x_ri (pc := 9) dX8_rooms_9 rfl rfl ?_
  exact ⟨rfl, rfl⟩
theorem c_X8_rooms {d : Nat} {w : mW} {b n nb : Nat} (hS0 : Shape w) (tn : (fld w 44 32).toInt = (n : Int)) (hn : n ≤ 8) (tb : (fld w 44 5).toInt = (nb : Int)) (hnb : nb ≤ 5) (hb : b < nb) (hwh : ∀ r, r < n → ∃ b, b < nb ∧ arr w 66 r = nI b) (hki : ∀ c, c < nb → arr w 48 c = 0 ∨ arr w 48 c = 1 ∨ arr w 48 c = 2) : mC (d + 3) kX8_rooms [.ref 44, .int (nI b)] w (fun r w' => r = some (.int (nI (bitsN (rmM w b n) 5))) ∧ w' = w) := by
  have lp : ∀ (m k : Nat) (x : Int32), k ≤ 5 → 5 < k + m → 1 ≤ k → mJ mX0 (d + 3) kX8_rooms (fun r w' => r = some (.int (nI (bitsN (rmM w b n) 5))) ∧ w' = w) 22 [.ref 44, .int (nI b), .int (arr w 49 b), .int (nI (bitsN (rmM w b n) k)), .int (nI k)] [] (setA w 49 (upd (arr w 49) b x)) := by
    intro m
    induction m with
    | zero => intro k x h1 h2; omega
    | succ m ih =>
      intro k x hk1 hk2 hk0
      have hS := hS0.stA 49 (upd (arr w 49) b x)
      have tk : (nI k).toInt = (k : Int) := nI_toInt (by omega)
      refine x_iload (pc := 22) dX8_rooms_22 rfl ?_
      refine x_iconst (pc := 24) (v := 4) dX8_rooms_24 (by decide) ?_
      refine x_icmp_gt (pc := 25) (tgt := 60) dX8_rooms_25 (by decide) (fun h25 => ?_) (fun h25 => ?_)
      · refine x_aload_n (pc := 60) (i := 0) dX8_rooms_60 rfl rfl ?_
        refine x_getR (pc := 61) hS fX8_22 dX8_rooms_61 rfl rfl ?_
        refine x_iload_n (pc := 64) (i := 1) dX8_rooms_64 rfl rfl ?_
        refine x_iload_n (pc := 65) (i := 2) dX8_rooms_65 rfl rfl ?_
        refine x_astN (pc := 66) hS dX8_rooms_66 rfl (by omega) (by decide) (fun hS => ?_)
        refine x_iload_n (pc := 67) (i := 3) dX8_rooms_67 rfl rfl ?_
        refine x_ri (pc := 68) dX8_rooms_68 rfl rfl ?_
        rw [arr_setA hS0 rfl, upd_upd, setA_setA, upd_self, setA_self hS0 rfl]; exact ⟨by rw [show k = 5 by (try simp only [b2_e0, b2_n0, Decidable.not_not] at *) <;> (try simp only [i_lt, i_le, i_eq, not_and, not_or, ne_eq, il_0, il_1, il_2, il_3, il_4, il_5, il_6, il_7, il_8, il_9, il_10, il_14, il_15, il_19, il_20, il_24, il_30, il_31, il_44, il_48, il_49, il_52, il_57, il_59, il_60, il_70, il_99, il_100, il_103, il_108, il_114, il_m1, il_m2, il_m3, il_m4, il_m9, il_m10, il_m100] at *) <;> omega], rfl⟩
      · refine x_aload_n (pc := 28) (i := 0) dX8_rooms_28 rfl rfl ?_
        refine x_getR (pc := 29) hS fX8_22 dX8_rooms_29 rfl rfl ?_
        refine x_iload_n (pc := 32) (i := 1) dX8_rooms_32 rfl rfl ?_
        refine x_iload (pc := 33) dX8_rooms_33 rfl ?_
        refine x_astN (pc := 35) hS dX8_rooms_35 rfl (by omega) (by decide) (fun hS => ?_)
        rw [arr_setA hS0 rfl, upd_upd, setA_setA]
        have hS := hS0.stA 49 (upd (arr w 49) b (nI k))
        have hk5 : k < 5 := by (try simp only [b2_e0, b2_n0, Decidable.not_not] at *) <;> (try simp only [i_lt, i_le, i_eq, not_and, not_or, ne_eq, il_0, il_1, il_2, il_3, il_4, il_5, il_6, il_7, il_8, il_9, il_10, il_14, il_15, il_19, il_20, il_24, il_30, il_31, il_44, il_48, il_49, il_52, il_57, il_59, il_60, il_70, il_99, il_100, il_103, il_108, il_114, il_m1, il_m2, il_m3, il_m4, il_m9, il_m10, il_m100] at *) <;> omega
        refine x_iload_n (pc := 36) (i := 3) dX8_rooms_36 rfl rfl ?_
        refine x_aload_n (pc := 37) (i := 0) dX8_rooms_37 rfl rfl ?_
        refine x_vs (pc := 38) (As := []) rfl hS lX8_238 dX8_rooms_38 rfl rfl (Nat.le_of_ble_eq_true rfl) (c_X8_areSo (n := n) (nb := nb) hS (by rw [fld_setA]; exact tn) hn hnb (by rw [arr_setA_a (by decide)]; exact hwh) (by rw [arr_setA_a (by decide)]; exact hki)) ?_
        rintro _ _ ⟨rfl, hq⟩
        obtain rfl := hq.symm
        refine x_pushI ?_
        rw [arr_setA_a (a := 49) (b := 67) (by decide), arr_setA_a (a := 49) (b := 68) (by decide)]
        refine x_if_eq (pc := 41) (tgt := 51) dX8_rooms_41 (by decide) (fun h41 => ?_) (fun h41 => ?_)
        · refine x_iconst (pc := 51) (v := 0) dX8_rooms_51 (by decide) ?_
          refine x_ior (pc := 52) dX8_rooms_52 ?_
          refine x_istore_n (pc := 53) (i := 3) (L' := [_, _, _, _, _]) dX8_rooms_53 rfl (by decide) rfl ?_
          refine x_iinc (pc := 54) (L' := [_, _, _, _, _]) dX8_rooms_54 (by decide) rfl (by first | exact nI_inc _ | rfl) rfl ?_
          refine x_goto (pc := 57) (tgt := 22) dX8_rooms_57 (by decide) ?_
          have h9 := ih (k + 1) (nI k) (by omega) (by omega) (by omega)
          by_cases hp : rmM w b n k = true
          · rw [← bitsN_t (p := rmM w b n) (k := k) (by omega) hp] at h9; first | exact h9 | exact absurd ((rmM_e hk0).symm.trans hp) (b2_e0.mp h41)
          · rw [bitsN_f (p := rmM w b n) (k := k) (by simpa using hp)] at h9; first | (rw [or0]; exact h9) | exact absurd ((rmM_e hk0).trans (b2_n0.mp h41)) hp
        · refine x_iconst (pc := 44) (v := 1) dX8_rooms_44 (by decide) ?_
          refine x_iload (pc := 45) dX8_rooms_45 rfl ?_
          refine x_ishl (pc := 47) dX8_rooms_47 ?_
          refine x_goto (pc := 48) (tgt := 52) dX8_rooms_48 (by decide) ?_
          refine x_ior (pc := 52) dX8_rooms_52 ?_
          refine x_istore_n (pc := 53) (i := 3) (L' := [_, _, _, _, _]) dX8_rooms_53 rfl (by decide) rfl ?_
          refine x_iinc (pc := 54) (L' := [_, _, _, _, _]) dX8_rooms_54 (by decide) rfl (by first | exact nI_inc _ | rfl) rfl ?_
          refine x_goto (pc := 57) (tgt := 22) dX8_rooms_57 (by decide) ?_
          have h9 := ih (k + 1) (nI k) (by omega) (by omega) (by omega)
          by_cases hp : rmM w b n k = true
          · rw [← bitsN_t (p := rmM w b n) (k := k) (by omega) hp] at h9; first | exact h9 | exact absurd ((rmM_e hk0).symm.trans hp) (b2_e0.mp h41)
          · rw [bitsN_f (p := rmM w b n) (k := k) (by simpa using hp)] at h9; first | (rw [or0]; exact h9) | exact absurd ((rmM_e hk0).trans (b2_n0.mp h41)) hp
  have tk : (nI b).toInt = (b : Int) := nI_toInt (by omega)
  have hS := hS0
  have h9 := lp 5 1 (arr w 49 b) (by omega) (by omega) (by omega)
  rw [upd_self, setA_self hS0 rfl] at h9
  refine mC.of (L := [_, _, _, _, _]) okX8_rooms 3 rfl rfl ?_
  refine x_aload_n (pc := 0) (i := 0) dX8_rooms_0 rfl rfl ?_
  refine x_iload_n (pc := 1) (i := 1) dX8_rooms_1 rfl rfl ?_
  refine x_vs (pc := 2) (As := [_]) rfl hS lX8_152 dX8_rooms_2 rfl rfl (Nat.le_of_ble_eq_true rfl) (c_X8_isBarrow hS) ?_
  rintro _ _ ⟨rfl, hq⟩
  obtain rfl := hq.symm
  refine x_pushI ?_
  refine x_if_ne (pc := 5) (tgt := 10) dX8_rooms_5 (by decide) (fun h5 => ?_) (fun h5 => absurd h5 (by rw [b2_n0]; exact ⟨by (try simp only [b2_e0, b2_n0, Decidable.not_not] at *) <;> (try simp only [i_lt, i_le, i_eq, not_and, not_or, ne_eq, il_0, il_1, il_2, il_3, il_4, il_5, il_6, il_7, il_8, il_9, il_10, il_14, il_15, il_19, il_20, il_24, il_30, il_31, il_44, il_48, il_49, il_52, il_57, il_59, il_60, il_70, il_99, il_100, il_103, il_108, il_114, il_m1, il_m2, il_m3, il_m4, il_m9, il_m10, il_m100] at *) <;> omega, by (try simp only [b2_e0, b2_n0, Decidable.not_not] at *) <;> (try simp only [i_lt, i_le, i_eq, not_and, not_or, ne_eq, il_0, il_1, il_2, il_3, il_4, il_5, il_6, il_7, il_8, il_9, il_10, il_14, il_15, il_19, il_20, il_24, il_30, il_31, il_44, il_48, il_49, il_52, il_57, il_59, il_60, il_70, il_99, il_100, il_103, il_108, il_114, il_m1, il_m2, il_m3, il_m4, il_m9, il_m10, il_m100] at *) <;> omega⟩))
  refine x_aload_n (pc := 10) (i := 0) dX8_rooms_10 rfl rfl ?_
  refine x_getR (pc := 11) hS fX8_22 dX8_rooms_11 rfl rfl ?_
  refine x_iload_n (pc := 14) (i := 1) dX8_rooms_14 rfl rfl ?_
  refine x_aldN (pc := 15) hS dX8_rooms_15 rfl (by omega) (by decide) ?_
  refine x_istore_n (pc := 16) (i := 2) (L' := [_, _, _, _, _]) dX8_rooms_16 rfl (by decide) rfl ?_
  refine x_iconst (pc := 17) (v := 0) dX8_rooms_17 (by decide) ?_
  refine x_istore_n (pc := 18) (i := 3) (L' := [_, _, _, _, _]) dX8_rooms_18 rfl (by decide) rfl ?_
  refine x_iconst (pc := 19) (v := 1) dX8_rooms_19 (by decide) ?_
  refine x_istore (pc := 20) (L' := [_, _, _, _, _]) dX8_rooms_20 (by decide) rfl ?_
  exact h9
theorem c_X8_kinds_no {d : Nat} {w : mW} {b : Int32} (hS : Shape w) (h : ¬ (0 ≤ b ∧ b < fld w 44 5)) : mC (d + 1) kX8_kinds [.ref 44, .int b] w (fun r w' => r = some (.int (-1)) ∧ w' = w) := by
  refine mC.of (L := [_, _, _, _, _]) okX8_kinds 3 rfl rfl ?_
  refine x_aload_n (pc := 0) (i := 0) dX8_kinds_0 rfl rfl ?_
  refine x_iload_n (pc := 1) (i := 1) dX8_kinds_1 rfl rfl ?_
  refine x_vs (pc := 2) (As := [_]) rfl hS lX8_152 dX8_kinds_2 rfl rfl (Nat.le_of_ble_eq_true rfl) (c_X8_isBarrow hS) ?_
  rintro _ _ ⟨rfl, hq⟩
  obtain rfl := hq.symm
  refine x_pushI ?_
  refine x_if_ne (pc := 5) (tgt := 10) dX8_kinds_5 (by decide) (fun h5 => absurd h5 (by rw [b2_n0]; exact h)) (fun h5 => ?_)
  refine x_iconst (pc := 8) (v := (-1)) dX8_kinds_8 (by decide) ?_
  refine x_ri (pc := 9) dX8_kinds_9 rfl rfl ?_
  exact ⟨rfl, rfl⟩
theorem kd_ok {ki : Nat → Int32} {nb b k : Nat} (h : ∀ c, c < nb → ki c = 0 ∨ ki c = 1 ∨ ki c = 2) (hk : k < 3) : ∀ c, c < nb → upd ki b (nI k) c = 0 ∨ upd ki b (nI k) c = 1 ∨ upd ki b (nI k) c = 2 := by
  intro c hc
  unfold upd
  split
  · match k, hk with
    | 0, _ => exact Or.inl rfl
    | 1, _ => exact Or.inr (Or.inl rfl)
    | 2, _ => exact Or.inr (Or.inr rfl)
  · exact h c hc
theorem c_X8_kinds {d : Nat} {w : mW} {b n nb : Nat} (hS0 : Shape w) (tn : (fld w 44 32).toInt = (n : Int)) (hn : n ≤ 8) (tb : (fld w 44 5).toInt = (nb : Int)) (hnb : nb ≤ 5) (hb : b < nb) (hwh : ∀ r, r < n → ∃ b, b < nb ∧ arr w 66 r = nI b) (hki : ∀ c, c < nb → arr w 48 c = 0 ∨ arr w 48 c = 1 ∨ arr w 48 c = 2) : mC (d + 3) kX8_kinds [.ref 44, .int (nI b)] w (fun r w' => r = some (.int (nI (bitsN (kdM w b n) 3))) ∧ w' = w) := by
  have lp : ∀ (m k : Nat) (x : Int32), k ≤ 3 → 3 < k + m → mJ mX0 (d + 3) kX8_kinds (fun r w' => r = some (.int (nI (bitsN (kdM w b n) 3))) ∧ w' = w) 22 [.ref 44, .int (nI b), .int (arr w 48 b), .int (nI (bitsN (kdM w b n) k)), .int (nI k)] [] (setA w 48 (upd (arr w 48) b x)) := by
    intro m
    induction m with
    | zero => intro k x h1 h2; omega
    | succ m ih =>
      intro k x hk1 hk2
      have hS := hS0.stA 48 (upd (arr w 48) b x)
      have tk : (nI k).toInt = (k : Int) := nI_toInt (by omega)
      refine x_iload (pc := 22) dX8_kinds_22 rfl ?_
      refine x_iconst (pc := 24) (v := 3) dX8_kinds_24 (by decide) ?_
      refine x_icmp_ge (pc := 25) (tgt := 60) dX8_kinds_25 (by decide) (fun h25 => ?_) (fun h25 => ?_)
      · refine x_aload_n (pc := 60) (i := 0) dX8_kinds_60 rfl rfl ?_
        refine x_getR (pc := 61) hS fX8_19 dX8_kinds_61 rfl rfl ?_
        refine x_iload_n (pc := 64) (i := 1) dX8_kinds_64 rfl rfl ?_
        refine x_iload_n (pc := 65) (i := 2) dX8_kinds_65 rfl rfl ?_
        refine x_astN (pc := 66) hS dX8_kinds_66 rfl (by omega) (by decide) (fun hS => ?_)
        refine x_iload_n (pc := 67) (i := 3) dX8_kinds_67 rfl rfl ?_
        refine x_ri (pc := 68) dX8_kinds_68 rfl rfl ?_
        rw [arr_setA hS0 rfl, upd_upd, setA_setA, upd_self, setA_self hS0 rfl]; exact ⟨by rw [show k = 3 by (try simp only [b2_e0, b2_n0, Decidable.not_not] at *) <;> (try simp only [i_lt, i_le, i_eq, not_and, not_or, ne_eq, il_0, il_1, il_2, il_3, il_4, il_5, il_6, il_7, il_8, il_9, il_10, il_14, il_15, il_19, il_20, il_24, il_30, il_31, il_44, il_48, il_49, il_52, il_57, il_59, il_60, il_70, il_99, il_100, il_103, il_108, il_114, il_m1, il_m2, il_m3, il_m4, il_m9, il_m10, il_m100] at *) <;> omega], rfl⟩
      · refine x_aload_n (pc := 28) (i := 0) dX8_kinds_28 rfl rfl ?_
        refine x_getR (pc := 29) hS fX8_19 dX8_kinds_29 rfl rfl ?_
        refine x_iload_n (pc := 32) (i := 1) dX8_kinds_32 rfl rfl ?_
        refine x_iload (pc := 33) dX8_kinds_33 rfl ?_
        refine x_astN (pc := 35) hS dX8_kinds_35 rfl (by omega) (by decide) (fun hS => ?_)
        rw [arr_setA hS0 rfl, upd_upd, setA_setA]
        have hS := hS0.stA 48 (upd (arr w 48) b (nI k))
        have hk5 : k < 3 := by (try simp only [b2_e0, b2_n0, Decidable.not_not] at *) <;> (try simp only [i_lt, i_le, i_eq, not_and, not_or, ne_eq, il_0, il_1, il_2, il_3, il_4, il_5, il_6, il_7, il_8, il_9, il_10, il_14, il_15, il_19, il_20, il_24, il_30, il_31, il_44, il_48, il_49, il_52, il_57, il_59, il_60, il_70, il_99, il_100, il_103, il_108, il_114, il_m1, il_m2, il_m3, il_m4, il_m9, il_m10, il_m100] at *) <;> omega
        refine x_iload_n (pc := 36) (i := 3) dX8_kinds_36 rfl rfl ?_
        refine x_aload_n (pc := 37) (i := 0) dX8_kinds_37 rfl rfl ?_
        refine x_vs (pc := 38) (As := []) rfl hS lX8_238 dX8_kinds_38 rfl rfl (Nat.le_of_ble_eq_true rfl) (c_X8_areSo (n := n) (nb := nb) hS (by rw [fld_setA]; exact tn) hn hnb (by rw [arr_setA_a (by decide)]; exact hwh) (by rw [arr_setA hS0 rfl]; exact kd_ok hki hk5)) ?_
        rintro _ _ ⟨rfl, hq⟩
        obtain rfl := hq.symm
        refine x_pushI ?_
        rw [arr_setA_a (a := 48) (b := 67) (by decide), arr_setA_a (a := 48) (b := 68) (by decide)]
        refine x_if_eq (pc := 41) (tgt := 51) dX8_kinds_41 (by decide) (fun h41 => ?_) (fun h41 => ?_)
        · refine x_iconst (pc := 51) (v := 0) dX8_kinds_51 (by decide) ?_
          refine x_ior (pc := 52) dX8_kinds_52 ?_
          refine x_istore_n (pc := 53) (i := 3) (L' := [_, _, _, _, _]) dX8_kinds_53 rfl (by decide) rfl ?_
          refine x_iinc (pc := 54) (L' := [_, _, _, _, _]) dX8_kinds_54 (by decide) rfl (by first | exact nI_inc _ | rfl) rfl ?_
          refine x_goto (pc := 57) (tgt := 22) dX8_kinds_57 (by decide) ?_
          have h9 := ih (k + 1) (nI k) (by omega) (by omega)
          by_cases hp : kdM w b n k = true
          · rw [← bitsN_t (p := kdM w b n) (k := k) (by omega) hp] at h9; first | exact h9 | exact absurd hp (b2_e0.mp h41)
          · rw [bitsN_f (p := kdM w b n) (k := k) (by simpa using hp)] at h9; first | (rw [or0]; exact h9) | exact absurd (b2_n0.mp h41) hp
        · refine x_iconst (pc := 44) (v := 1) dX8_kinds_44 (by decide) ?_
          refine x_iload (pc := 45) dX8_kinds_45 rfl ?_
          refine x_ishl (pc := 47) dX8_kinds_47 ?_
          refine x_goto (pc := 48) (tgt := 52) dX8_kinds_48 (by decide) ?_
          refine x_ior (pc := 52) dX8_kinds_52 ?_
          refine x_istore_n (pc := 53) (i := 3) (L' := [_, _, _, _, _]) dX8_kinds_53 rfl (by decide) rfl ?_
          refine x_iinc (pc := 54) (L' := [_, _, _, _, _]) dX8_kinds_54 (by decide) rfl (by first | exact nI_inc _ | rfl) rfl ?_
          refine x_goto (pc := 57) (tgt := 22) dX8_kinds_57 (by decide) ?_
          have h9 := ih (k + 1) (nI k) (by omega) (by omega)
          by_cases hp : kdM w b n k = true
          · rw [← bitsN_t (p := kdM w b n) (k := k) (by omega) hp] at h9; first | exact h9 | exact absurd hp (b2_e0.mp h41)
          · rw [bitsN_f (p := kdM w b n) (k := k) (by simpa using hp)] at h9; first | (rw [or0]; exact h9) | exact absurd (b2_n0.mp h41) hp
  have tk : (nI b).toInt = (b : Int) := nI_toInt (by omega)
  have hS := hS0
  have h9 := lp 4 0 (arr w 48 b) (by omega) (by omega)
  rw [upd_self, setA_self hS0 rfl] at h9
  refine mC.of (L := [_, _, _, _, _]) okX8_kinds 3 rfl rfl ?_
  refine x_aload_n (pc := 0) (i := 0) dX8_kinds_0 rfl rfl ?_
  refine x_iload_n (pc := 1) (i := 1) dX8_kinds_1 rfl rfl ?_
  refine x_vs (pc := 2) (As := [_]) rfl hS lX8_152 dX8_kinds_2 rfl rfl (Nat.le_of_ble_eq_true rfl) (c_X8_isBarrow hS) ?_
  rintro _ _ ⟨rfl, hq⟩
  obtain rfl := hq.symm
  refine x_pushI ?_
  refine x_if_ne (pc := 5) (tgt := 10) dX8_kinds_5 (by decide) (fun h5 => ?_) (fun h5 => absurd h5 (by rw [b2_n0]; exact ⟨by (try simp only [b2_e0, b2_n0, Decidable.not_not] at *) <;> (try simp only [i_lt, i_le, i_eq, not_and, not_or, ne_eq, il_0, il_1, il_2, il_3, il_4, il_5, il_6, il_7, il_8, il_9, il_10, il_14, il_15, il_19, il_20, il_24, il_30, il_31, il_44, il_48, il_49, il_52, il_57, il_59, il_60, il_70, il_99, il_100, il_103, il_108, il_114, il_m1, il_m2, il_m3, il_m4, il_m9, il_m10, il_m100] at *) <;> omega, by (try simp only [b2_e0, b2_n0, Decidable.not_not] at *) <;> (try simp only [i_lt, i_le, i_eq, not_and, not_or, ne_eq, il_0, il_1, il_2, il_3, il_4, il_5, il_6, il_7, il_8, il_9, il_10, il_14, il_15, il_19, il_20, il_24, il_30, il_31, il_44, il_48, il_49, il_52, il_57, il_59, il_60, il_70, il_99, il_100, il_103, il_108, il_114, il_m1, il_m2, il_m3, il_m4, il_m9, il_m10, il_m100] at *) <;> omega⟩))
  refine x_aload_n (pc := 10) (i := 0) dX8_kinds_10 rfl rfl ?_
  refine x_getR (pc := 11) hS fX8_19 dX8_kinds_11 rfl rfl ?_
  refine x_iload_n (pc := 14) (i := 1) dX8_kinds_14 rfl rfl ?_
  refine x_aldN (pc := 15) hS dX8_kinds_15 rfl (by omega) (by decide) ?_
  refine x_istore_n (pc := 16) (i := 2) (L' := [_, _, _, _, _]) dX8_kinds_16 rfl (by decide) rfl ?_
  refine x_iconst (pc := 17) (v := 0) dX8_kinds_17 (by decide) ?_
  refine x_istore_n (pc := 18) (i := 3) (L' := [_, _, _, _, _]) dX8_kinds_18 rfl (by decide) rfl ?_
  refine x_iconst (pc := 19) (v := 0) dX8_kinds_19 (by decide) ?_
  refine x_istore (pc := 20) (L' := [_, _, _, _, _]) dX8_kinds_20 (by decide) rfl ?_
  exact h9
theorem hx_hm {w : mW} {nb nr : Nat} {b q : Nat} {K E : Nat → Int32} {h0 : Int32} (tb : (fld w 7 0).toInt = (nb : Int)) (hnb : nb ≤ 5) (hb : b < nb) (r3 : ∀ r, r < nr → ∃ b, b < nb ∧ arr w 41 r = nI b) (hq : q < nr) (hK : ∀ c, c < nb → c ≠ b → K c = arr w 8 c) (hE : ∀ c, c < nb → c ≠ b → E c = arr w 9 c) (h00 : holdsE (K b) (E b) = h0) : hX w (nI b) h0 q = holdsE (K (arr w 41 q).toNatClampNeg) (E (arr w 41 q).toNatClampNeg) := by
  obtain ⟨c, hc, ec⟩ := r3 q hq
  unfold hX
  rw [ec, nI_clamp (by omega)]
  by_cases e : c = b
  · subst e
    rw [if_pos rfl, h00]
  · rw [if_neg (fun z => e ((nI_eq (by omega) (by omega)).mp z)), if_pos ⟨nI_pos' (by omega), by rw [i_lt, nI_toInt (by omega), tb]; omega⟩, hK c hc e, hE c hc e]
theorem both_rooms {w : mW} (hI : Inv w) (b : Int32) : Both kX7_rooms kX8_rooms [.int b] w := by
  intro d
  obtain ⟨hS, nb, nw, nr, hD, hR, hSI, hT⟩ := id hI; obtain ⟨h1, h2, h3, tb, tw, hB, hW, ⟨e1, e2, e3⟩, f8, f9, f10, f11, f12, f13, f14, f15, f16⟩ := id hD
  obtain ⟨r1, r2, r3, r4, r5, r6, r7⟩ := id hR
  by_cases hb : 0 ≤ b ∧ b < fld w 7 0
  · obtain ⟨j, hj, rfl⟩ := in_nI tb (by omega) hb
    refine mC.mono (c_X7_rooms (d := d + 17) hS r2 r1 tb h1 hj) ?_
    rintro _ _ ⟨rfl, hq⟩; obtain rfl := hq.symm
    refine mC.mono (c_X8_rooms (d := d + 17) hS (by rw [r4]; exact r2) r1 (by rw [e1]; exact tb) h1 hj (by rw [r5]; exact r3) (by rw [f8]; exact fun c hc => (hB c hc).1)) ?_
    rintro _ _ ⟨rfl, hq⟩; obtain rfl := hq.symm
    refine ⟨?_, hI⟩
    rw [bitsN_congr (p := rmM w j nr) (q := rmX w j nr)]
    intro v hv
    unfold rmM rmX
    rw [r6, r7]
    congr 1
    refine soB_c (fun q hq => ?_)
    rw [hx_hm (K := arr w 8) (E := upd (arr w 9) j (nI v)) tb h1 hj r3 hq (fun _ _ _ => rfl) (fun c _ hne => pk_un hne) (by rw [pk_us])]
    simp only [hMd]
    rw [arr_setA_a (a := 49) (b := 48) (by decide), arr_setA_a (a := 49) (b := 66) (by decide), arr_setA hS rfl, f8, f9, r5]
  · refine mC.mono (c_X7_rooms_no (d := d + 19) hS hb) ?_
    rintro _ _ ⟨rfl, hq⟩; obtain rfl := hq.symm
    refine mC.mono (c_X8_rooms_no (d := d + 19) hS (by rw [e1]; exact hb)) ?_
    rintro _ _ ⟨rfl, hq⟩; obtain rfl := hq.symm
    exact ⟨rfl, hI⟩
theorem both_kinds {w : mW} (hI : Inv w) (b : Int32) : Both kX7_kinds kX8_kinds [.int b] w := by
  intro d
  obtain ⟨hS, nb, nw, nr, hD, hR, hSI, hT⟩ := id hI; obtain ⟨h1, h2, h3, tb, tw, hB, hW, ⟨e1, e2, e3⟩, f8, f9, f10, f11, f12, f13, f14, f15, f16⟩ := id hD
  obtain ⟨r1, r2, r3, r4, r5, r6, r7⟩ := id hR
  by_cases hb : 0 ≤ b ∧ b < fld w 7 0
  · obtain ⟨j, hj, rfl⟩ := in_nI tb (by omega) hb
    refine mC.mono (c_X7_kinds (d := d + 17) hS r2 r1 tb h1 hj) ?_
    rintro _ _ ⟨rfl, hq⟩; obtain rfl := hq.symm
    refine mC.mono (c_X8_kinds (d := d + 17) hS (by rw [r4]; exact r2) r1 (by rw [e1]; exact tb) h1 hj (by rw [r5]; exact r3) (by rw [f8]; exact fun c hc => (hB c hc).1)) ?_
    rintro _ _ ⟨rfl, hq⟩; obtain rfl := hq.symm
    refine ⟨?_, hI⟩
    rw [bitsN_congr (p := kdM w j nr) (q := kdX w j nr)]
    intro v hv
    unfold kdM kdX
    rw [r6, r7]
    refine soB_c (fun q hq => ?_)
    rw [hx_hm (K := upd (arr w 8) j (nI v)) (E := arr w 9) tb h1 hj r3 hq (fun c _ hne => pk_un hne) (fun _ _ _ => rfl) (by rw [pk_us])]
    simp only [hMd]
    rw [arr_setA_a (a := 48) (b := 49) (by decide), arr_setA_a (a := 48) (b := 66) (by decide), arr_setA hS rfl, f8, f9, r5]
  · refine mC.mono (c_X7_kinds_no (d := d + 19) hS hb) ?_
    rintro _ _ ⟨rfl, hq⟩; obtain rfl := hq.symm
    refine mC.mono (c_X8_kinds_no (d := d + 19) hS (by rw [e1]; exact hb)) ?_
    rintro _ _ ⟨rfl, hq⟩; obtain rfl := hq.symm
    exact ⟨rfl, hI⟩

