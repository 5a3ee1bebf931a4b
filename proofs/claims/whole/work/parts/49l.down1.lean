-- down: the text; the class
abbrev dg (cd : Nat → Int32) (p : Nat) (a b : Int32) : Prop := a ≤ cd p ∧ cd p ≤ b
def kdE (c : Int32) : Int32 := if c = 103 then 2 else if c = 108 then 1 else if c = 114 then 0 else -9
def stopB (cd : Nat → Int32) (p : Nat) : Nat := if ¬ cd p = 59 then p else if kdE (cd (p + 1)) = -9 then p + 1 else if ¬ dg cd (p + 2) 49 52 then p + 2 else if ¬ dg cd (p + 3) 48 57 then p + 3 else if ¬ dg cd (p + 4) 48 57 then p + 4 else p + 5
def stopW (cd : Nat → Int32) (p : Nat) : Nat := if ¬ cd p = 44 then p else if ¬ dg cd (p + 1) 48 57 then p + 1 else if ¬ dg cd (p + 2) 48 57 then p + 2 else if ¬ dg cd (p + 3) 49 57 then p + 3 else p + 4
theorem stopB_le {cd : Nat → Int32} {p : Nat} : stopB cd p ≤ p + 5 := by unfold stopB; (repeat' split) <;> omega
theorem stopW_le {cd : Nat → Int32} {p : Nat} : stopW cd p ≤ p + 4 := by unfold stopW; (repeat' split) <;> omega
def fW (cd : Nat → Int32) (n p0 : Nat) : Nat → Nat → Option Nat × Nat
  | 0, w => (if p0 + 4 * w < n then some (p0 + 4 * w) else none, w)
  | m + 1, w => if w = 0 ∨ cd (p0 + 4 * w) = 44 then (if stopW cd (p0 + 4 * w) = p0 + 4 * w + 4 then fW cd n p0 m (w + 1) else (some (stopW cd (p0 + 4 * w)), w)) else (if p0 + 4 * w < n then some (p0 + 4 * w) else none, w)
def fB (cd : Nat → Int32) (n : Nat) : Nat → Nat → Option Nat × Nat × Nat
  | 0, b => ((fW cd n (1 + 5 * b) 5 0).1, b, (fW cd n (1 + 5 * b) 5 0).2)
  | m + 1, b => if b = 0 ∨ cd (1 + 5 * b) = 59 then (if stopB cd (1 + 5 * b) = 1 + 5 * b + 5 then fB cd n m (b + 1) else (some (stopB cd (1 + 5 * b)), b, 0)) else ((fW cd n (1 + 5 * b) 5 0).1, b, (fW cd n (1 + 5 * b) 5 0).2)
def fT (cd : Nat → Int32) (n : Nat) : Option Nat × Nat × Nat := if cd 0 = 100 then fB cd n 5 0 else (some 0, 0, 0)
def cdX (w : mW) (n : Nat) (cd : Nat → Int32) : Prop := Shape w ∧ fld w 5 1 = nI n ∧ n ≤ 60 ∧ (∀ q, q < n → arr w 6 q = cd q) ∧ ∀ q, n ≤ q → cd q = -1
theorem cdX.gr {w w' : mW} {n : Nat} {cd : Nat → Int32} {A : List Nat} {F : List (Nat × Nat)} (h : cdX w n cd) (hS : Shape w') (g : Gr A F w w') (hA : 6 ∉ A) (hF : (5, 1) ∉ F) : cdX w' n cd := by
  obtain ⟨_, h1, h2, h3, h4⟩ := h
  exact ⟨hS, by rw [g.2 5 1 hF]; exact h1, h2, by rw [g.1 6 hA]; exact h3, h4⟩
theorem c_X6_codeAt {d : Nat} {w : mW} {n p : Nat} {cd : Nat → Int32} (hT : cdX w n cd) (hp : p ≤ 1000) : mC d kX6_codeAt [.ref 5, .int (nI p)] w (fun r w' => r = some (.int (cd p)) ∧ w' = w) := by
  obtain ⟨hS, g1, g2, g3, g4⟩ := hT
  have tp : (nI p).toInt = (p : Int) := nI_toInt (by omega)
  have tn : (nI n).toInt = (n : Int) := nI_toInt (by omega)
  refine mC.of (L := [_, _]) okX6_codeAt 0 rfl rfl ?_
  refine x_iload_n (pc := 0) (i := 1) dX6_codeAt_0 rfl rfl ?_
  refine x_if_lt (pc := 1) (tgt := 21) dX6_codeAt_1 (by decide) (fun h1 => absurd h1 (by rw [i_lt, il_0, tp]; omega)) (fun h1 => ?_)
  refine x_iload_n (pc := 4) (i := 1) dX6_codeAt_4 rfl rfl ?_
  refine x_aload_n (pc := 5) (i := 0) dX6_codeAt_5 rfl rfl ?_
  refine x_getI (pc := 6) hS fX6_26 dX6_codeAt_6 rfl rfl ?_
  rw [g1]
  refine x_icmp_ge (pc := 9) (tgt := 21) dX6_codeAt_9 (by decide) (fun h9 => ?_) (fun h9 => ?_)
  · refine x_iconst (pc := 21) (v := (-1)) dX6_codeAt_21 (by decide) ?_
    refine x_ri (pc := 22) dX6_codeAt_22 rfl rfl ?_
    first | exact ⟨rfl, rfl⟩ | (have hpn : n ≤ p := (by (try simp only [b2_e0, b2_n0, Decidable.not_not] at *) <;> (try simp only [i_lt, i_le, i_eq, not_and, not_or, ne_eq, il_0, il_1, il_2, il_3, il_4, il_5, il_6, il_7, il_8, il_9, il_10, il_14, il_15, il_19, il_20, il_24, il_30, il_31, il_44, il_48, il_49, il_52, il_57, il_59, il_60, il_70, il_99, il_100, il_103, il_108, il_114, il_m1, il_m2, il_m3, il_m4, il_m9, il_m10, il_m100] at *) <;> omega); exact ⟨by rw [g4 p hpn], rfl⟩)
  · have hpn : p < n := by (try simp only [b2_e0, b2_n0, Decidable.not_not] at *) <;> (try simp only [i_lt, i_le, i_eq, not_and, not_or, ne_eq, il_0, il_1, il_2, il_3, il_4, il_5, il_6, il_7, il_8, il_9, il_10, il_14, il_15, il_19, il_20, il_24, il_30, il_31, il_44, il_48, il_49, il_52, il_57, il_59, il_60, il_70, il_99, il_100, il_103, il_108, il_114, il_m1, il_m2, il_m3, il_m4, il_m9, il_m10, il_m100] at *) <;> omega
    refine x_aload_n (pc := 12) (i := 0) dX6_codeAt_12 rfl rfl ?_
    refine x_getR (pc := 13) hS fX6_11 dX6_codeAt_13 rfl rfl ?_
    refine x_iload_n (pc := 16) (i := 1) dX6_codeAt_16 rfl rfl ?_
    refine x_aldN (pc := 17) hS dX6_codeAt_17 rfl (by omega) (by decide) ?_
    rw [g3 p hpn]
    refine x_goto (pc := 18) (tgt := 22) dX6_codeAt_18 (by decide) ?_
    refine x_ri (pc := 22) dX6_codeAt_22 rfl rfl ?_
    first | exact ⟨rfl, rfl⟩ | (have hpn : n ≤ p := (by (try simp only [b2_e0, b2_n0, Decidable.not_not] at *) <;> (try simp only [i_lt, i_le, i_eq, not_and, not_or, ne_eq, il_0, il_1, il_2, il_3, il_4, il_5, il_6, il_7, il_8, il_9, il_10, il_14, il_15, il_19, il_20, il_24, il_30, il_31, il_44, il_48, il_49, il_52, il_57, il_59, il_60, il_70, il_99, il_100, il_103, il_108, il_114, il_m1, il_m2, il_m3, il_m4, il_m9, il_m10, il_m100] at *) <;> omega); exact ⟨by rw [g4 p hpn], rfl⟩)
theorem c_X6_isDigit {d : Nat} {w : mW} {n p : Nat} {a b : Int32} {cd : Nat → Int32} (hT : cdX w n cd) (hp : p ≤ 1000) : mC (d + 1) kX6_isDigit [.ref 5, .int (nI p), .int a, .int b] w (fun r w' => r = some (.int (b2 (dg cd p a b))) ∧ w' = w) := by
  have hS := hT.1
  refine mC.of (L := [_, _, _, _]) okX6_isDigit 0 rfl rfl ?_
  refine x_aload_n (pc := 0) (i := 0) dX6_isDigit_0 rfl rfl ?_
  refine x_iload_n (pc := 1) (i := 1) dX6_isDigit_1 rfl rfl ?_
  refine x_vs (pc := 2) (As := [_]) rfl hS lX6_33 dX6_isDigit_2 rfl rfl (Nat.le_of_ble_eq_true rfl) (c_X6_codeAt hT hp) ?_
  rintro _ _ ⟨rfl, hq⟩
  obtain rfl := hq.symm
  refine x_pushI ?_
  refine x_iload_n (pc := 5) (i := 2) dX6_isDigit_5 rfl rfl ?_
  refine x_icmp_lt (pc := 6) (tgt := 22) dX6_isDigit_6 (by decide) (fun h6 => ?_) (fun h6 => ?_)
  · refine x_iconst (pc := 22) (v := 0) dX6_isDigit_22 (by decide) ?_
    refine x_ri (pc := 23) dX6_isDigit_23 rfl rfl ?_
    refine ⟨?_, rfl⟩
    first | (have z1 : cd p < a := h6; rw [b2_f (fun z => absurd z1 (Int32.not_lt.mpr z.1))]) | (have z1 : b < cd p := h15; rw [b2_f (fun z => absurd z1 (Int32.not_lt.mpr z.2))]) | (have z1 : ¬ cd p < a := h6; have z2 : ¬ b < cd p := h15; rw [b2_t ⟨Int32.not_lt.mp z1, Int32.not_lt.mp z2⟩])
  · refine x_aload_n (pc := 9) (i := 0) dX6_isDigit_9 rfl rfl ?_
    refine x_iload_n (pc := 10) (i := 1) dX6_isDigit_10 rfl rfl ?_
    refine x_vs (pc := 11) (As := [_]) rfl hS lX6_33 dX6_isDigit_11 rfl rfl (Nat.le_of_ble_eq_true rfl) (c_X6_codeAt hT hp) ?_
    rintro _ _ ⟨rfl, hq⟩
    obtain rfl := hq.symm
    refine x_pushI ?_
    refine x_iload_n (pc := 14) (i := 3) dX6_isDigit_14 rfl rfl ?_
    refine x_icmp_gt (pc := 15) (tgt := 22) dX6_isDigit_15 (by decide) (fun h15 => ?_) (fun h15 => ?_)
    · refine x_iconst (pc := 22) (v := 0) dX6_isDigit_22 (by decide) ?_
      refine x_ri (pc := 23) dX6_isDigit_23 rfl rfl ?_
      refine ⟨?_, rfl⟩
      first | (have z1 : cd p < a := h6; rw [b2_f (fun z => absurd z1 (Int32.not_lt.mpr z.1))]) | (have z1 : b < cd p := h15; rw [b2_f (fun z => absurd z1 (Int32.not_lt.mpr z.2))]) | (have z1 : ¬ cd p < a := h6; have z2 : ¬ b < cd p := h15; rw [b2_t ⟨Int32.not_lt.mp z1, Int32.not_lt.mp z2⟩])
    · refine x_iconst (pc := 18) (v := 1) dX6_isDigit_18 (by decide) ?_
      refine x_goto (pc := 19) (tgt := 23) dX6_isDigit_19 (by decide) ?_
      refine x_ri (pc := 23) dX6_isDigit_23 rfl rfl ?_
      refine ⟨?_, rfl⟩
      first | (have z1 : cd p < a := h6; rw [b2_f (fun z => absurd z1 (Int32.not_lt.mpr z.1))]) | (have z1 : b < cd p := h15; rw [b2_f (fun z => absurd z1 (Int32.not_lt.mpr z.2))]) | (have z1 : ¬ cd p < a := h6; have z2 : ¬ b < cd p := h15; rw [b2_t ⟨Int32.not_lt.mp z1, Int32.not_lt.mp z2⟩])
theorem c_X6_digitAt {d : Nat} {w : mW} {n p : Nat} {cd : Nat → Int32} (hT : cdX w n cd) (hp : p ≤ 1000) : mC (d + 1) kX6_digitAt [.ref 5, .int (nI p)] w (fun r w' => r = some (.int (cd p - 48)) ∧ w' = w) := by
  have hS := hT.1
  refine mC.of (L := [_, _]) okX6_digitAt 0 rfl rfl ?_
  refine x_aload_n (pc := 0) (i := 0) dX6_digitAt_0 rfl rfl ?_
  refine x_iload_n (pc := 1) (i := 1) dX6_digitAt_1 rfl rfl ?_
  refine x_vs (pc := 2) (As := [_]) rfl hS lX6_33 dX6_digitAt_2 rfl rfl (Nat.le_of_ble_eq_true rfl) (c_X6_codeAt hT hp) ?_
  rintro _ _ ⟨rfl, hq⟩
  obtain rfl := hq.symm
  refine x_pushI ?_
  refine x_bipush (pc := 5) (v := 48) dX6_digitAt_5 (by decide) ?_
  refine x_isub (pc := 7) dX6_digitAt_7 ?_
  refine x_ri (pc := 8) dX6_digitAt_8 rfl rfl ?_
  exact ⟨rfl, rfl⟩
theorem c_X6_kindAt {d : Nat} {w : mW} {n p : Nat} {cd : Nat → Int32} (hT : cdX w n cd) (hp : p ≤ 1000) : mC (d + 1) kX6_kindAt [.ref 5, .int (nI p)] w (fun r w' => r = some (.int (kdE (cd p))) ∧ w' = w) := by
  have hS := hT.1
  refine mC.of (L := [_, _]) okX6_kindAt 0 rfl rfl ?_
  refine x_aload_n (pc := 0) (i := 0) dX6_kindAt_0 rfl rfl ?_
  refine x_iload_n (pc := 1) (i := 1) dX6_kindAt_1 rfl rfl ?_
  refine x_vs (pc := 2) (As := [_]) rfl hS lX6_33 dX6_kindAt_2 rfl rfl (Nat.le_of_ble_eq_true rfl) (c_X6_codeAt hT hp) ?_
  rintro _ _ ⟨rfl, hq⟩
  obtain rfl := hq.symm
  refine x_pushI ?_
  by_cases h5_103 : cd p = 103
  · rw [h5_103]
    refine x_lookup (pc := 5) (tgt := 44) dX6_kindAt_5 (by decide) rfl (by decide) ?_
    refine x_iconst (pc := 44) (v := 2) dX6_kindAt_44 (by decide) ?_
    refine x_ri (pc := 45) dX6_kindAt_45 rfl rfl ?_
    exact ⟨by simp_all [kdE], rfl⟩
  by_cases h5_108 : cd p = 108
  · rw [h5_108]
    refine x_lookup (pc := 5) (tgt := 42) dX6_kindAt_5 (by decide) rfl (by decide) ?_
    refine x_iconst (pc := 42) (v := 1) dX6_kindAt_42 (by decide) ?_
    refine x_ri (pc := 43) dX6_kindAt_43 rfl rfl ?_
    exact ⟨by simp_all [kdE], rfl⟩
  by_cases h5_114 : cd p = 114
  · rw [h5_114]
    refine x_lookup (pc := 5) (tgt := 40) dX6_kindAt_5 (by decide) rfl (by decide) ?_
    refine x_iconst (pc := 40) (v := 0) dX6_kindAt_40 (by decide) ?_
    refine x_ri (pc := 41) dX6_kindAt_41 rfl rfl ?_
    exact ⟨by simp_all [kdE], rfl⟩
  refine x_lookup (pc := 5) (tgt := 46) (off := 41) dX6_kindAt_5 (by decide) (by rw [lv_osw h5_103 (by decide), lv_osw h5_108 (by decide), lv_osw h5_114 (by decide)]; rfl) (by decide) ?_
  refine x_bipush (pc := 46) (v := (-9)) dX6_kindAt_46 (by decide) ?_
  refine x_ri (pc := 48) dX6_kindAt_48 rfl rfl ?_
  exact ⟨by simp_all [kdE], rfl⟩
theorem c_X6_stopInBarrow {d : Nat} {w : mW} {n p : Nat} {cd : Nat → Int32} (hT : cdX w n cd) (hp : p ≤ 500) : mC (d + 2) kX6_stopInBarrow [.ref 5, .int (nI p)] w (fun r w' => r = some (.int (nI (stopB cd p))) ∧ w' = w) := by
  have hS := hT.1
  have a1 : nI p + 1 = nI (p + 1) := nI_add p 1
  have a2 : nI p + 2 = nI (p + 2) := nI_add p 2
  have a3 : nI p + 3 = nI (p + 3) := nI_add p 3
  have a4 : nI p + 4 = nI (p + 4) := nI_add p 4
  have a5 : nI p + 5 = nI (p + 5) := nI_add p 5
  unfold stopB
  refine mC.of (L := [_, _]) okX6_stopInBarrow 0 rfl rfl ?_
  refine x_aload_n (pc := 0) (i := 0) dX6_stopInBarrow_0 rfl rfl ?_
  refine x_iload_n (pc := 1) (i := 1) dX6_stopInBarrow_1 rfl rfl ?_
  refine x_vs (pc := 2) (As := [_]) rfl hS lX6_33 dX6_stopInBarrow_2 rfl rfl (Nat.le_of_ble_eq_true rfl) (c_X6_codeAt hT (by omega)) ?_
  rintro _ _ ⟨rfl, hq⟩
  obtain rfl := hq.symm
  refine x_pushI ?_
  refine x_bipush (pc := 5) (v := 59) dX6_stopInBarrow_5 (by decide) ?_
  refine x_icmp_eq (pc := 7) (tgt := 12) dX6_stopInBarrow_7 (by decide) (fun h7 => ?_) (fun h7 => ?_)
  · refine x_aload_n (pc := 12) (i := 0) dX6_stopInBarrow_12 rfl rfl ?_
    refine x_iload_n (pc := 13) (i := 1) dX6_stopInBarrow_13 rfl rfl ?_
    refine x_iconst (pc := 14) (v := 1) dX6_stopInBarrow_14 (by decide) ?_
    refine x_iadd (pc := 15) dX6_stopInBarrow_15 ?_
    rw [a1]
    refine x_vs (pc := 16) (As := [_]) rfl hS lX6_49 dX6_stopInBarrow_16 rfl rfl (Nat.le_of_ble_eq_true rfl) (c_X6_kindAt hT (by omega)) ?_
    rintro _ _ ⟨rfl, hq⟩
    obtain rfl := hq.symm
    refine x_pushI ?_
    refine x_bipush (pc := 19) (v := (-9)) dX6_stopInBarrow_19 (by decide) ?_
    refine x_icmp_ne (pc := 21) (tgt := 28) dX6_stopInBarrow_21 (by decide) (fun h21 => ?_) (fun h21 => ?_)
    · refine x_aload_n (pc := 28) (i := 0) dX6_stopInBarrow_28 rfl rfl ?_
      refine x_iload_n (pc := 29) (i := 1) dX6_stopInBarrow_29 rfl rfl ?_
      refine x_iconst (pc := 30) (v := 2) dX6_stopInBarrow_30 (by decide) ?_
      refine x_iadd (pc := 31) dX6_stopInBarrow_31 ?_
      rw [a2]
      refine x_bipush (pc := 32) (v := 49) dX6_stopInBarrow_32 (by decide) ?_
      refine x_bipush (pc := 34) (v := 52) dX6_stopInBarrow_34 (by decide) ?_
      refine x_vs (pc := 36) (As := [_, _, _]) rfl hS lX6_52 dX6_stopInBarrow_36 rfl rfl (Nat.le_of_ble_eq_true rfl) (c_X6_isDigit hT (by omega)) ?_
      rintro _ _ ⟨rfl, hq⟩
      obtain rfl := hq.symm
      refine x_pushI ?_
      refine x_if_ne (pc := 39) (tgt := 46) dX6_stopInBarrow_39 (by decide) (fun h39 => ?_) (fun h39 => ?_)
      · refine x_aload_n (pc := 46) (i := 0) dX6_stopInBarrow_46 rfl rfl ?_
        refine x_iload_n (pc := 47) (i := 1) dX6_stopInBarrow_47 rfl rfl ?_
        refine x_iconst (pc := 48) (v := 3) dX6_stopInBarrow_48 (by decide) ?_
        refine x_iadd (pc := 49) dX6_stopInBarrow_49 ?_
        rw [a3]
        refine x_bipush (pc := 50) (v := 48) dX6_stopInBarrow_50 (by decide) ?_
        refine x_bipush (pc := 52) (v := 57) dX6_stopInBarrow_52 (by decide) ?_
        refine x_vs (pc := 54) (As := [_, _, _]) rfl hS lX6_52 dX6_stopInBarrow_54 rfl rfl (Nat.le_of_ble_eq_true rfl) (c_X6_isDigit hT (by omega)) ?_
        rintro _ _ ⟨rfl, hq⟩
        obtain rfl := hq.symm
        refine x_pushI ?_
        refine x_if_ne (pc := 57) (tgt := 64) dX6_stopInBarrow_57 (by decide) (fun h57 => ?_) (fun h57 => ?_)
        · refine x_aload_n (pc := 64) (i := 0) dX6_stopInBarrow_64 rfl rfl ?_
          refine x_iload_n (pc := 65) (i := 1) dX6_stopInBarrow_65 rfl rfl ?_
          refine x_iconst (pc := 66) (v := 4) dX6_stopInBarrow_66 (by decide) ?_
          refine x_iadd (pc := 67) dX6_stopInBarrow_67 ?_
          rw [a4]
          refine x_bipush (pc := 68) (v := 48) dX6_stopInBarrow_68 (by decide) ?_
          refine x_bipush (pc := 70) (v := 57) dX6_stopInBarrow_70 (by decide) ?_
          refine x_vs (pc := 72) (As := [_, _, _]) rfl hS lX6_52 dX6_stopInBarrow_72 rfl rfl (Nat.le_of_ble_eq_true rfl) (c_X6_isDigit hT (by omega)) ?_
          rintro _ _ ⟨rfl, hq⟩
          obtain rfl := hq.symm
          refine x_pushI ?_
          refine x_if_ne (pc := 75) (tgt := 82) dX6_stopInBarrow_75 (by decide) (fun h75 => ?_) (fun h75 => ?_)
          · refine x_iload_n (pc := 82) (i := 1) dX6_stopInBarrow_82 rfl rfl ?_
            refine x_iconst (pc := 83) (v := 5) dX6_stopInBarrow_83 (by decide) ?_
            refine x_iadd (pc := 84) dX6_stopInBarrow_84 ?_
            rw [a5]
            refine x_ri (pc := 85) dX6_stopInBarrow_85 rfl rfl ?_
            exact ⟨by rw [if_neg (not_not_intro h7), if_neg h21, if_neg (not_not_intro (b2_n0.mp h39)), if_neg (not_not_intro (b2_n0.mp h57)), if_neg (not_not_intro (b2_n0.mp h75))], rfl⟩
          · refine x_iload_n (pc := 78) (i := 1) dX6_stopInBarrow_78 rfl rfl ?_
            refine x_iconst (pc := 79) (v := 4) dX6_stopInBarrow_79 (by decide) ?_
            refine x_iadd (pc := 80) dX6_stopInBarrow_80 ?_
            rw [a4]
            refine x_ri (pc := 81) dX6_stopInBarrow_81 rfl rfl ?_
            exact ⟨by rw [if_neg (not_not_intro h7), if_neg h21, if_neg (not_not_intro (b2_n0.mp h39)), if_neg (not_not_intro (b2_n0.mp h57)), if_pos (b2_e0.mp h75)], rfl⟩
        · refine x_iload_n (pc := 60) (i := 1) dX6_stopInBarrow_60 rfl rfl ?_
          refine x_iconst (pc := 61) (v := 3) dX6_stopInBarrow_61 (by decide) ?_
          refine x_iadd (pc := 62) dX6_stopInBarrow_62 ?_
          rw [a3]
          refine x_ri (pc := 63) dX6_stopInBarrow_63 rfl rfl ?_
          exact ⟨by rw [if_neg (not_not_intro h7), if_neg h21, if_neg (not_not_intro (b2_n0.mp h39)), if_pos (b2_e0.mp h57)], rfl⟩
      · refine x_iload_n (pc := 42) (i := 1) dX6_stopInBarrow_42 rfl rfl ?_
        refine x_iconst (pc := 43) (v := 2) dX6_stopInBarrow_43 (by decide) ?_
        refine x_iadd (pc := 44) dX6_stopInBarrow_44 ?_
        rw [a2]
        refine x_ri (pc := 45) dX6_stopInBarrow_45 rfl rfl ?_
        exact ⟨by rw [if_neg (not_not_intro h7), if_neg h21, if_pos (b2_e0.mp h39)], rfl⟩
    · refine x_iload_n (pc := 24) (i := 1) dX6_stopInBarrow_24 rfl rfl ?_
      refine x_iconst (pc := 25) (v := 1) dX6_stopInBarrow_25 (by decide) ?_
      refine x_iadd (pc := 26) dX6_stopInBarrow_26 ?_
      rw [a1]
      refine x_ri (pc := 27) dX6_stopInBarrow_27 rfl rfl ?_
      exact ⟨by rw [if_neg (not_not_intro h7), if_pos h21], rfl⟩
  · refine x_iload_n (pc := 10) (i := 1) dX6_stopInBarrow_10 rfl rfl ?_
    refine x_ri (pc := 11) dX6_stopInBarrow_11 rfl rfl ?_
    exact ⟨by rw [if_pos h7], rfl⟩
theorem c_X6_stopInWalker {d : Nat} {w : mW} {n p : Nat} {cd : Nat → Int32} (hT : cdX w n cd) (hp : p ≤ 500) : mC (d + 2) kX6_stopInWalker [.ref 5, .int (nI p)] w (fun r w' => r = some (.int (nI (stopW cd p))) ∧ w' = w) := by
  have hS := hT.1
  have a1 : nI p + 1 = nI (p + 1) := nI_add p 1
  have a2 : nI p + 2 = nI (p + 2) := nI_add p 2
  have a3 : nI p + 3 = nI (p + 3) := nI_add p 3
  have a4 : nI p + 4 = nI (p + 4) := nI_add p 4
  unfold stopW
  refine mC.of (L := [_, _]) okX6_stopInWalker 0 rfl rfl ?_
  refine x_aload_n (pc := 0) (i := 0) dX6_stopInWalker_0 rfl rfl ?_
  refine x_iload_n (pc := 1) (i := 1) dX6_stopInWalker_1 rfl rfl ?_
  refine x_vs (pc := 2) (As := [_]) rfl hS lX6_33 dX6_stopInWalker_2 rfl rfl (Nat.le_of_ble_eq_true rfl) (c_X6_codeAt hT (by omega)) ?_
  rintro _ _ ⟨rfl, hq⟩
  obtain rfl := hq.symm
  refine x_pushI ?_
  refine x_bipush (pc := 5) (v := 44) dX6_stopInWalker_5 (by decide) ?_
  refine x_icmp_eq (pc := 7) (tgt := 12) dX6_stopInWalker_7 (by decide) (fun h7 => ?_) (fun h7 => ?_)
  · refine x_aload_n (pc := 12) (i := 0) dX6_stopInWalker_12 rfl rfl ?_
    refine x_iload_n (pc := 13) (i := 1) dX6_stopInWalker_13 rfl rfl ?_
    refine x_iconst (pc := 14) (v := 1) dX6_stopInWalker_14 (by decide) ?_
    refine x_iadd (pc := 15) dX6_stopInWalker_15 ?_
    rw [a1]
    refine x_bipush (pc := 16) (v := 48) dX6_stopInWalker_16 (by decide) ?_
    refine x_bipush (pc := 18) (v := 57) dX6_stopInWalker_18 (by decide) ?_
    refine x_vs (pc := 20) (As := [_, _, _]) rfl hS lX6_52 dX6_stopInWalker_20 rfl rfl (Nat.le_of_ble_eq_true rfl) (c_X6_isDigit hT (by omega)) ?_
    rintro _ _ ⟨rfl, hq⟩
    obtain rfl := hq.symm
    refine x_pushI ?_
    refine x_if_ne (pc := 23) (tgt := 30) dX6_stopInWalker_23 (by decide) (fun h23 => ?_) (fun h23 => ?_)
    · refine x_aload_n (pc := 30) (i := 0) dX6_stopInWalker_30 rfl rfl ?_
      refine x_iload_n (pc := 31) (i := 1) dX6_stopInWalker_31 rfl rfl ?_
      refine x_iconst (pc := 32) (v := 2) dX6_stopInWalker_32 (by decide) ?_
      refine x_iadd (pc := 33) dX6_stopInWalker_33 ?_
      rw [a2]
      refine x_bipush (pc := 34) (v := 48) dX6_stopInWalker_34 (by decide) ?_
      refine x_bipush (pc := 36) (v := 57) dX6_stopInWalker_36 (by decide) ?_
      refine x_vs (pc := 38) (As := [_, _, _]) rfl hS lX6_52 dX6_stopInWalker_38 rfl rfl (Nat.le_of_ble_eq_true rfl) (c_X6_isDigit hT (by omega)) ?_
      rintro _ _ ⟨rfl, hq⟩
      obtain rfl := hq.symm
      refine x_pushI ?_
      refine x_if_ne (pc := 41) (tgt := 48) dX6_stopInWalker_41 (by decide) (fun h41 => ?_) (fun h41 => ?_)
      · refine x_aload_n (pc := 48) (i := 0) dX6_stopInWalker_48 rfl rfl ?_
        refine x_iload_n (pc := 49) (i := 1) dX6_stopInWalker_49 rfl rfl ?_
        refine x_iconst (pc := 50) (v := 3) dX6_stopInWalker_50 (by decide) ?_
        refine x_iadd (pc := 51) dX6_stopInWalker_51 ?_
        rw [a3]
        refine x_bipush (pc := 52) (v := 49) dX6_stopInWalker_52 (by decide) ?_
        refine x_bipush (pc := 54) (v := 57) dX6_stopInWalker_54 (by decide) ?_
        refine x_vs (pc := 56) (As := [_, _, _]) rfl hS lX6_52 dX6_stopInWalker_56 rfl rfl (Nat.le_of_ble_eq_true rfl) (c_X6_isDigit hT (by omega)) ?_
        rintro _ _ ⟨rfl, hq⟩
        obtain rfl := hq.symm
        refine x_pushI ?_
        refine x_if_ne (pc := 59) (tgt := 66) dX6_stopInWalker_59 (by decide) (fun h59 => ?_) (fun h59 => ?_)
        · refine x_iload_n (pc := 66) (i := 1) dX6_stopInWalker_66 rfl rfl ?_
          refine x_iconst (pc := 67) (v := 4) dX6_stopInWalker_67 (by decide) ?_
          refine x_iadd (pc := 68) dX6_stopInWalker_68 ?_
          rw [a4]
          refine x_ri (pc := 69) dX6_stopInWalker_69 rfl rfl ?_
          exact ⟨by rw [if_neg (not_not_intro h7), if_neg (not_not_intro (b2_n0.mp h23)), if_neg (not_not_intro (b2_n0.mp h41)), if_neg (not_not_intro (b2_n0.mp h59))], rfl⟩
        · refine x_iload_n (pc := 62) (i := 1) dX6_stopInWalker_62 rfl rfl ?_
          refine x_iconst (pc := 63) (v := 3) dX6_stopInWalker_63 (by decide) ?_
          refine x_iadd (pc := 64) dX6_stopInWalker_64 ?_
          rw [a3]
          refine x_ri (pc := 65) dX6_stopInWalker_65 rfl rfl ?_
          exact ⟨by rw [if_neg (not_not_intro h7), if_neg (not_not_intro (b2_n0.mp h23)), if_neg (not_not_intro (b2_n0.mp h41)), if_pos (b2_e0.mp h59)], rfl⟩
      · refine x_iload_n (pc := 44) (i := 1) dX6_stopInWalker_44 rfl rfl ?_
        refine x_iconst (pc := 45) (v := 2) dX6_stopInWalker_45 (by decide) ?_
        refine x_iadd (pc := 46) dX6_stopInWalker_46 ?_
        rw [a2]
        refine x_ri (pc := 47) dX6_stopInWalker_47 rfl rfl ?_
        exact ⟨by rw [if_neg (not_not_intro h7), if_neg (not_not_intro (b2_n0.mp h23)), if_pos (b2_e0.mp h41)], rfl⟩
    · refine x_iload_n (pc := 26) (i := 1) dX6_stopInWalker_26 rfl rfl ?_
      refine x_iconst (pc := 27) (v := 1) dX6_stopInWalker_27 (by decide) ?_
      refine x_iadd (pc := 28) dX6_stopInWalker_28 ?_
      rw [a1]
      refine x_ri (pc := 29) dX6_stopInWalker_29 rfl rfl ?_
      exact ⟨by rw [if_neg (not_not_intro h7), if_pos (b2_e0.mp h23)], rfl⟩
  · refine x_iload_n (pc := 10) (i := 1) dX6_stopInWalker_10 rfl rfl ?_
    refine x_ri (pc := 11) dX6_stopInWalker_11 rfl rfl ?_
    exact ⟨by rw [if_pos h7], rfl⟩
abbrev tW (w : mW) (b c : Nat) : mW := setF (setF w 5 2 (nI b)) 5 3 (nI c)
theorem tW_b {w : mW} {b c b' : Nat} : setF (tW w b c) 5 2 (nI b') = tW w b' c := by
  unfold tW
  rw [setF_comm _ (show (3 : Nat) ≠ 2 by decide), setF_setF]
theorem tW_c {w : mW} {b c c' : Nat} : setF (tW w b c) 5 3 (nI c') = tW w b c' := by unfold tW; rw [setF_setF]
theorem tW_T {w : mW} {n b c : Nat} {cd : Nat → Int32} (hT : cdX w n cd) : cdX (tW w b c) n cd := hT.gr (A := []) (F := [(5, 2), (5, 3)]) ((hT.1.stF rfl rfl _).stF rfl rfl _) ((Gr.rf.stF (by decide) _).stF (by decide) _) (by decide) (by decide)
theorem tW_2 {w : mW} {b c : Nat} (hS : Shape w) : fld (tW w b c) 5 2 = nI b := by rw [fld_setF_k (by decide), fld_setF hS rfl rfl]
theorem tW_3 {w : mW} {b c : Nat} (hS : Shape w) : fld (tW w b c) 5 3 = nI c := by rw [fld_setF (hS.stF rfl rfl _) rfl rfl]
theorem nI0 {b : Nat} (hb : b ≤ 1000) : nI b = 0 ↔ b = 0 := ⟨fun h => by
  by_cases z : b = 0
  · exact z
  · exact absurd h (nI_ne0 (by omega) (by omega)), fun h => by rw [h]; rfl⟩
theorem ff_W {d : Nat} {w : mW} {n b : Nat} {cd : Nat → Int32} {Q : Option Value → mW → Prop} (hT : cdX w n cd) (hb : b ≤ 5) : ∀ (m c : Nat), c + m = 5 → Q (some (.int (fwE (fW cd n (1 + 5 * b) m c).1))) (tW w b (fW cd n (1 + 5 * b) m c).2) → mJ mX0 (d + 3) kX6_firstFault Q 80 [.ref 5, .int (nI (1 + 5 * b + 4 * c)), .int (nI c), .null] [] (tW w b c) := by
  have hn := hT.2.2.1
  have tn : (nI n).toInt = (n : Int) := nI_toInt (by omega)
  intro m
  induction m with
  | zero =>
    intro c hc hQ
    obtain rfl : c = 5 := by omega
    have hTt := tW_T (b := b) (c := 5) hT
    have hS := hTt.1
    have tp : (nI (1 + 5 * b + 4 * 5)).toInt = ((1 + 5 * b + 4 * 5 : Nat) : Int) := nI_toInt (by omega)
    simp only [fW] at hQ
    refine x_iload_n (pc := 80) (i := 2) dX6_firstFault_80 rfl rfl ?_
    refine x_iconst (pc := 81) (v := 5) dX6_firstFault_81 (by decide) ?_
    refine x_icmp_ge (pc := 82) (tgt := 132) dX6_firstFault_82 (by decide) (fun h82 => ?_) (fun h82 => absurd h82 (by decide))
    refine x_iload_n (pc := 132) (i := 1) dX6_firstFault_132 rfl rfl ?_
    refine x_aload_n (pc := 133) (i := 0) dX6_firstFault_133 rfl rfl ?_
    refine x_getI (pc := 134) hS fX6_26 dX6_firstFault_134 rfl rfl ?_
    rw [hTt.2.1]
    refine x_icmp_ge (pc := 137) (tgt := 144) dX6_firstFault_137 (by decide) (fun h137 => ?_) (fun h137 => ?_)
    · refine x_bipush (pc := 144) (v := (-9)) dX6_firstFault_144 (by decide) ?_
      refine x_ri (pc := 146) dX6_firstFault_146 rfl rfl ?_
      first | (have z9 : 1 + 5 * b + 4 * 5 < n := (by (try simp only [b2_e0, b2_n0, Decidable.not_not] at *) <;> (try simp only [i_lt, i_le, i_eq, not_and, not_or, ne_eq, il_0, il_1, il_2, il_3, il_4, il_5, il_6, il_7, il_8, il_9, il_10, il_14, il_15, il_19, il_20, il_24, il_30, il_31, il_44, il_48, il_49, il_52, il_57, il_59, il_60, il_70, il_99, il_100, il_103, il_108, il_114, il_m1, il_m2, il_m3, il_m4, il_m9, il_m10, il_m100] at *) <;> omega); rw [if_pos z9] at hQ; exact hQ) | (have z9 : ¬ 1 + 5 * b + 4 * 5 < n := (by (try simp only [b2_e0, b2_n0, Decidable.not_not] at *) <;> (try simp only [i_lt, i_le, i_eq, not_and, not_or, ne_eq, il_0, il_1, il_2, il_3, il_4, il_5, il_6, il_7, il_8, il_9, il_10, il_14, il_15, il_19, il_20, il_24, il_30, il_31, il_44, il_48, il_49, il_52, il_57, il_59, il_60, il_70, il_99, il_100, il_103, il_108, il_114, il_m1, il_m2, il_m3, il_m4, il_m9, il_m10, il_m100] at *) <;> omega); rw [if_neg z9] at hQ; exact hQ)
    · refine x_iload_n (pc := 140) (i := 1) dX6_firstFault_140 rfl rfl ?_
      refine x_goto (pc := 141) (tgt := 146) dX6_firstFault_141 (by decide) ?_
      refine x_ri (pc := 146) dX6_firstFault_146 rfl rfl ?_
      first | (have z9 : 1 + 5 * b + 4 * 5 < n := (by (try simp only [b2_e0, b2_n0, Decidable.not_not] at *) <;> (try simp only [i_lt, i_le, i_eq, not_and, not_or, ne_eq, il_0, il_1, il_2, il_3, il_4, il_5, il_6, il_7, il_8, il_9, il_10, il_14, il_15, il_19, il_20, il_24, il_30, il_31, il_44, il_48, il_49, il_52, il_57, il_59, il_60, il_70, il_99, il_100, il_103, il_108, il_114, il_m1, il_m2, il_m3, il_m4, il_m9, il_m10, il_m100] at *) <;> omega); rw [if_pos z9] at hQ; exact hQ) | (have z9 : ¬ 1 + 5 * b + 4 * 5 < n := (by (try simp only [b2_e0, b2_n0, Decidable.not_not] at *) <;> (try simp only [i_lt, i_le, i_eq, not_and, not_or, ne_eq, il_0, il_1, il_2, il_3, il_4, il_5, il_6, il_7, il_8, il_9, il_10, il_14, il_15, il_19, il_20, il_24, il_30, il_31, il_44, il_48, il_49, il_52, il_57, il_59, il_60, il_70, il_99, il_100, il_103, il_108, il_114, il_m1, il_m2, il_m3, il_m4, il_m9, il_m10, il_m100] at *) <;> omega); rw [if_neg z9] at hQ; exact hQ)
  | succ m ih =>
    intro c hc hQ
    have hTt := tW_T (b := b) (c := c) hT
    have hS := hTt.1
    have tc : (nI c).toInt = (c : Int) := nI_toInt (by omega)
    have tp : (nI (1 + 5 * b + 4 * c)).toInt = ((1 + 5 * b + 4 * c : Nat) : Int) := nI_toInt (by omega)
    have hle := stopW_le (cd := cd) (p := 1 + 5 * b + 4 * c)
    simp only [fW] at hQ
    refine x_iload_n (pc := 80) (i := 2) dX6_firstFault_80 rfl rfl ?_
    refine x_iconst (pc := 81) (v := 5) dX6_firstFault_81 (by decide) ?_
    refine x_icmp_ge (pc := 82) (tgt := 132) dX6_firstFault_82 (by decide) (fun h82 => absurd h82 (by rw [i_le, il_5, tc]; omega)) (fun h82 => ?_)
    refine x_iload_n (pc := 85) (i := 2) dX6_firstFault_85 rfl rfl ?_
    refine x_if_eq (pc := 86) (tgt := 99) dX6_firstFault_86 (by decide) (fun h86 => ?_) (fun h86 => ?_)
    · have hcd : c = 0 ∨ cd (1 + 5 * b + 4 * c) = 44 := by first | exact Or.inl ((nI0 (by omega)).mp h86) | exact Or.inr h96
      refine x_aload_n (pc := 99) (i := 0) dX6_firstFault_99 rfl rfl ?_
      refine x_iload_n (pc := 100) (i := 1) dX6_firstFault_100 rfl rfl ?_
      refine x_vs (pc := 101) (As := [_]) rfl hS lX6_46 dX6_firstFault_101 rfl rfl (Nat.le_of_ble_eq_true rfl) (c_X6_stopInWalker hTt (by omega)) ?_
      rintro _ _ ⟨rfl, hq⟩
      obtain rfl := hq.symm
      refine x_pushI ?_
      refine x_istore_n (pc := 104) (i := 3) (L' := [_, _, _, _]) dX6_firstFault_104 rfl (by decide) rfl ?_
      refine x_iload_n (pc := 105) (i := 3) dX6_firstFault_105 rfl rfl ?_
      refine x_iload_n (pc := 106) (i := 1) dX6_firstFault_106 rfl rfl ?_
      refine x_iconst (pc := 107) (v := 4) dX6_firstFault_107 (by decide) ?_
      refine x_iadd (pc := 108) dX6_firstFault_108 ?_
      rw [show nI (1 + 5 * b + 4 * c) + 4 = nI (1 + 5 * b + 4 * c + 4) from nI_add _ 4]
      refine x_icmp_eq (pc := 109) (tgt := 114) dX6_firstFault_109 (by decide) (fun h109 => ?_) (fun h109 => ?_)
      · have hst : stopW cd (1 + 5 * b + 4 * c) = 1 + 5 * b + 4 * c + 4 := (nI_eq (by omega) (by omega)).mp h109
        refine x_iload_n (pc := 114) (i := 3) dX6_firstFault_114 rfl rfl ?_
        refine x_istore_n (pc := 115) (i := 1) (L' := [_, _, _, _]) dX6_firstFault_115 rfl (by decide) rfl ?_
        rw [hst]
        refine x_aload_n (pc := 116) (i := 0) dX6_firstFault_116 rfl rfl ?_
        refine x_dup (pc := 117) dX6_firstFault_117 rfl ?_
        refine x_getI (pc := 118) hS fX6_40 dX6_firstFault_118 rfl rfl ?_
        refine x_iconst (pc := 121) (v := 1) dX6_firstFault_121 (by decide) ?_
        rw [tW_3 hT.1]
        refine x_iadd (pc := 122) dX6_firstFault_122 ?_
        rw [nI_1]
        refine x_putI (pc := 123) hS fX6_40 dX6_firstFault_123 rfl rfl rfl rfl (fun hS => ?_)
        rw [tW_c]
        refine x_iinc (pc := 126) (L' := [_, _, _, _]) dX6_firstFault_126 (by decide) rfl (by first | exact nI_inc _ | rfl) rfl ?_
        refine x_goto (pc := 129) (tgt := 80) dX6_firstFault_129 (by decide) ?_
        rw [if_pos hcd, if_pos hst] at hQ
        exact mJ.weak (wk_v (wk_v (wk_v (wk_n wk_0)))) (ih (c + 1) (by omega) hQ)
      · refine x_iload_n (pc := 112) (i := 3) dX6_firstFault_112 rfl rfl ?_
        refine x_ri (pc := 113) dX6_firstFault_113 rfl rfl ?_
        rw [if_pos hcd, if_neg (fun z => h109 (by rw [z]))] at hQ; exact hQ
    · refine x_aload_n (pc := 89) (i := 0) dX6_firstFault_89 rfl rfl ?_
      refine x_iload_n (pc := 90) (i := 1) dX6_firstFault_90 rfl rfl ?_
      refine x_vs (pc := 91) (As := [_]) rfl hS lX6_33 dX6_firstFault_91 rfl rfl (Nat.le_of_ble_eq_true rfl) (c_X6_codeAt hTt (by omega)) ?_
      rintro _ _ ⟨rfl, hq⟩
      obtain rfl := hq.symm
      refine x_pushI ?_
      refine x_bipush (pc := 94) (v := 44) dX6_firstFault_94 (by decide) ?_
      refine x_icmp_ne (pc := 96) (tgt := 132) dX6_firstFault_96 (by decide) (fun h96 => ?_) (fun h96 => ?_)
      · refine x_iload_n (pc := 132) (i := 1) dX6_firstFault_132 rfl rfl ?_
        refine x_aload_n (pc := 133) (i := 0) dX6_firstFault_133 rfl rfl ?_
        refine x_getI (pc := 134) hS fX6_26 dX6_firstFault_134 rfl rfl ?_
        rw [hTt.2.1]
        refine x_icmp_ge (pc := 137) (tgt := 144) dX6_firstFault_137 (by decide) (fun h137 => ?_) (fun h137 => ?_)
        · refine x_bipush (pc := 144) (v := (-9)) dX6_firstFault_144 (by decide) ?_
          refine x_ri (pc := 146) dX6_firstFault_146 rfl rfl ?_
          rw [if_neg (fun z => z.elim (fun y => h86 ((nI0 (by omega)).mpr y)) h96)] at hQ; first | (have z9 : 1 + 5 * b + 4 * c < n := (by (try simp only [b2_e0, b2_n0, Decidable.not_not] at *) <;> (try simp only [i_lt, i_le, i_eq, not_and, not_or, ne_eq, il_0, il_1, il_2, il_3, il_4, il_5, il_6, il_7, il_8, il_9, il_10, il_14, il_15, il_19, il_20, il_24, il_30, il_31, il_44, il_48, il_49, il_52, il_57, il_59, il_60, il_70, il_99, il_100, il_103, il_108, il_114, il_m1, il_m2, il_m3, il_m4, il_m9, il_m10, il_m100] at *) <;> omega); rw [if_pos z9] at hQ; exact hQ) | (have z9 : ¬ 1 + 5 * b + 4 * c < n := (by (try simp only [b2_e0, b2_n0, Decidable.not_not] at *) <;> (try simp only [i_lt, i_le, i_eq, not_and, not_or, ne_eq, il_0, il_1, il_2, il_3, il_4, il_5, il_6, il_7, il_8, il_9, il_10, il_14, il_15, il_19, il_20, il_24, il_30, il_31, il_44, il_48, il_49, il_52, il_57, il_59, il_60, il_70, il_99, il_100, il_103, il_108, il_114, il_m1, il_m2, il_m3, il_m4, il_m9, il_m10, il_m100] at *) <;> omega); rw [if_neg z9] at hQ; exact hQ)
        · refine x_iload_n (pc := 140) (i := 1) dX6_firstFault_140 rfl rfl ?_
          refine x_goto (pc := 141) (tgt := 146) dX6_firstFault_141 (by decide) ?_
          refine x_ri (pc := 146) dX6_firstFault_146 rfl rfl ?_
          rw [if_neg (fun z => z.elim (fun y => h86 ((nI0 (by omega)).mpr y)) h96)] at hQ; first | (have z9 : 1 + 5 * b + 4 * c < n := (by (try simp only [b2_e0, b2_n0, Decidable.not_not] at *) <;> (try simp only [i_lt, i_le, i_eq, not_and, not_or, ne_eq, il_0, il_1, il_2, il_3, il_4, il_5, il_6, il_7, il_8, il_9, il_10, il_14, il_15, il_19, il_20, il_24, il_30, il_31, il_44, il_48, il_49, il_52, il_57, il_59, il_60, il_70, il_99, il_100, il_103, il_108, il_114, il_m1, il_m2, il_m3, il_m4, il_m9, il_m10, il_m100] at *) <;> omega); rw [if_pos z9] at hQ; exact hQ) | (have z9 : ¬ 1 + 5 * b + 4 * c < n := (by (try simp only [b2_e0, b2_n0, Decidable.not_not] at *) <;> (try simp only [i_lt, i_le, i_eq, not_and, not_or, ne_eq, il_0, il_1, il_2, il_3, il_4, il_5, il_6, il_7, il_8, il_9, il_10, il_14, il_15, il_19, il_20, il_24, il_30, il_31, il_44, il_48, il_49, il_52, il_57, il_59, il_60, il_70, il_99, il_100, il_103, il_108, il_114, il_m1, il_m2, il_m3, il_m4, il_m9, il_m10, il_m100] at *) <;> omega); rw [if_neg z9] at hQ; exact hQ)
      · have hcd : c = 0 ∨ cd (1 + 5 * b + 4 * c) = 44 := by first | exact Or.inl ((nI0 (by omega)).mp h86) | exact Or.inr h96
        refine x_aload_n (pc := 99) (i := 0) dX6_firstFault_99 rfl rfl ?_
        refine x_iload_n (pc := 100) (i := 1) dX6_firstFault_100 rfl rfl ?_
        refine x_vs (pc := 101) (As := [_]) rfl hS lX6_46 dX6_firstFault_101 rfl rfl (Nat.le_of_ble_eq_true rfl) (c_X6_stopInWalker hTt (by omega)) ?_
        rintro _ _ ⟨rfl, hq⟩
        obtain rfl := hq.symm
        refine x_pushI ?_
        refine x_istore_n (pc := 104) (i := 3) (L' := [_, _, _, _]) dX6_firstFault_104 rfl (by decide) rfl ?_
        refine x_iload_n (pc := 105) (i := 3) dX6_firstFault_105 rfl rfl ?_
        refine x_iload_n (pc := 106) (i := 1) dX6_firstFault_106 rfl rfl ?_
        refine x_iconst (pc := 107) (v := 4) dX6_firstFault_107 (by decide) ?_
        refine x_iadd (pc := 108) dX6_firstFault_108 ?_
        rw [show nI (1 + 5 * b + 4 * c) + 4 = nI (1 + 5 * b + 4 * c + 4) from nI_add _ 4]
        refine x_icmp_eq (pc := 109) (tgt := 114) dX6_firstFault_109 (by decide) (fun h109 => ?_) (fun h109 => ?_)
        · have hst : stopW cd (1 + 5 * b + 4 * c) = 1 + 5 * b + 4 * c + 4 := (nI_eq (by omega) (by omega)).mp h109
          refine x_iload_n (pc := 114) (i := 3) dX6_firstFault_114 rfl rfl ?_
          refine x_istore_n (pc := 115) (i := 1) (L' := [_, _, _, _]) dX6_firstFault_115 rfl (by decide) rfl ?_
          rw [hst]
          refine x_aload_n (pc := 116) (i := 0) dX6_firstFault_116 rfl rfl ?_
          refine x_dup (pc := 117) dX6_firstFault_117 rfl ?_
          refine x_getI (pc := 118) hS fX6_40 dX6_firstFault_118 rfl rfl ?_
          refine x_iconst (pc := 121) (v := 1) dX6_firstFault_121 (by decide) ?_
          rw [tW_3 hT.1]
          refine x_iadd (pc := 122) dX6_firstFault_122 ?_
          rw [nI_1]
          refine x_putI (pc := 123) hS fX6_40 dX6_firstFault_123 rfl rfl rfl rfl (fun hS => ?_)
          rw [tW_c]
          refine x_iinc (pc := 126) (L' := [_, _, _, _]) dX6_firstFault_126 (by decide) rfl (by first | exact nI_inc _ | rfl) rfl ?_
          refine x_goto (pc := 129) (tgt := 80) dX6_firstFault_129 (by decide) ?_
          rw [if_pos hcd, if_pos hst] at hQ
          exact mJ.weak (wk_v (wk_v (wk_v (wk_n wk_0)))) (ih (c + 1) (by omega) hQ)
        · refine x_iload_n (pc := 112) (i := 3) dX6_firstFault_112 rfl rfl ?_
          refine x_ri (pc := 113) dX6_firstFault_113 rfl rfl ?_
          rw [if_pos hcd, if_neg (fun z => h109 (by rw [z]))] at hQ; exact hQ
theorem ff_B {d : Nat} {w : mW} {n : Nat} {cd : Nat → Int32} {Q : Option Value → mW → Prop} (hT : cdX w n cd) : ∀ (m b : Nat), b + m = 5 → Q (some (.int (fwE (fB cd n m b).1))) (tW w (fB cd n m b).2.1 (fB cd n m b).2.2) → mJ mX0 (d + 3) kX6_firstFault Q 26 [.ref 5, .int (nI (1 + 5 * b)), .int (nI b), .null] [] (tW w b 0) := by
  intro m
  induction m with
  | zero =>
    intro b hb hQ
    obtain rfl : b = 5 := by omega
    have hTt := tW_T (b := 5) (c := 0) hT
    have hS := hTt.1
    simp only [fB] at hQ
    refine x_iload_n (pc := 26) (i := 2) dX6_firstFault_26 rfl rfl ?_
    refine x_iconst (pc := 27) (v := 5) dX6_firstFault_27 (by decide) ?_
    refine x_icmp_ge (pc := 28) (tgt := 78) dX6_firstFault_28 (by decide) (fun h28 => ?_) (fun h28 => absurd h28 (by decide))
    refine x_iconst (pc := 78) (v := 0) dX6_firstFault_78 (by decide) ?_
    refine x_istore_n (pc := 79) (i := 2) (L' := [_, _, _, _]) dX6_firstFault_79 rfl (by decide) rfl ?_
    exact ff_W hT (by omega) 5 0 rfl hQ
  | succ m ih =>
    intro b hb hQ
    have hTt := tW_T (b := b) (c := 0) hT
    have hS := hTt.1
    have tb : (nI b).toInt = (b : Int) := nI_toInt (by omega)
    have hle := stopB_le (cd := cd) (p := 1 + 5 * b)
    simp only [fB] at hQ
    refine x_iload_n (pc := 26) (i := 2) dX6_firstFault_26 rfl rfl ?_
    refine x_iconst (pc := 27) (v := 5) dX6_firstFault_27 (by decide) ?_
    refine x_icmp_ge (pc := 28) (tgt := 78) dX6_firstFault_28 (by decide) (fun h28 => absurd h28 (by rw [i_le, il_5, tb]; omega)) (fun h28 => ?_)
    refine x_iload_n (pc := 31) (i := 2) dX6_firstFault_31 rfl rfl ?_
    refine x_if_eq (pc := 32) (tgt := 45) dX6_firstFault_32 (by decide) (fun h32 => ?_) (fun h32 => ?_)
    · have hcd : b = 0 ∨ cd (1 + 5 * b) = 59 := by first | exact Or.inl ((nI0 (by omega)).mp h32) | exact Or.inr h42
      refine x_aload_n (pc := 45) (i := 0) dX6_firstFault_45 rfl rfl ?_
      refine x_iload_n (pc := 46) (i := 1) dX6_firstFault_46 rfl rfl ?_
      refine x_vs (pc := 47) (As := [_]) rfl hS lX6_43 dX6_firstFault_47 rfl rfl (Nat.le_of_ble_eq_true rfl) (c_X6_stopInBarrow hTt (by omega)) ?_
      rintro _ _ ⟨rfl, hq⟩
      obtain rfl := hq.symm
      refine x_pushI ?_
      refine x_istore_n (pc := 50) (i := 3) (L' := [_, _, _, _]) dX6_firstFault_50 rfl (by decide) rfl ?_
      refine x_iload_n (pc := 51) (i := 3) dX6_firstFault_51 rfl rfl ?_
      refine x_iload_n (pc := 52) (i := 1) dX6_firstFault_52 rfl rfl ?_
      refine x_iconst (pc := 53) (v := 5) dX6_firstFault_53 (by decide) ?_
      refine x_iadd (pc := 54) dX6_firstFault_54 ?_
      rw [show nI (1 + 5 * b) + 5 = nI (1 + 5 * b + 5) from nI_add _ 5]
      refine x_icmp_eq (pc := 55) (tgt := 60) dX6_firstFault_55 (by decide) (fun h55 => ?_) (fun h55 => ?_)
      · have hst : stopB cd (1 + 5 * b) = 1 + 5 * b + 5 := (nI_eq (by omega) (by omega)).mp h55
        refine x_iload_n (pc := 60) (i := 3) dX6_firstFault_60 rfl rfl ?_
        refine x_istore_n (pc := 61) (i := 1) (L' := [_, _, _, _]) dX6_firstFault_61 rfl (by decide) rfl ?_
        rw [hst]
        refine x_aload_n (pc := 62) (i := 0) dX6_firstFault_62 rfl rfl ?_
        refine x_dup (pc := 63) dX6_firstFault_63 rfl ?_
        refine x_getI (pc := 64) hS fX6_37 dX6_firstFault_64 rfl rfl ?_
        refine x_iconst (pc := 67) (v := 1) dX6_firstFault_67 (by decide) ?_
        rw [tW_2 hT.1]
        refine x_iadd (pc := 68) dX6_firstFault_68 ?_
        rw [nI_1]
        refine x_putI (pc := 69) hS fX6_37 dX6_firstFault_69 rfl rfl rfl rfl (fun hS => ?_)
        rw [tW_b]
        refine x_iinc (pc := 72) (L' := [_, _, _, _]) dX6_firstFault_72 (by decide) rfl (by first | exact nI_inc _ | rfl) rfl ?_
        refine x_goto (pc := 75) (tgt := 26) dX6_firstFault_75 (by decide) ?_
        rw [if_pos hcd, if_pos hst] at hQ
        exact mJ.weak (wk_v (wk_v (wk_v (wk_n wk_0)))) (ih (b + 1) (by omega) hQ)
      · refine x_iload_n (pc := 58) (i := 3) dX6_firstFault_58 rfl rfl ?_
        refine x_ri (pc := 59) dX6_firstFault_59 rfl rfl ?_
        rw [if_pos hcd, if_neg (fun z => h55 (by rw [z]))] at hQ; exact hQ
    · refine x_aload_n (pc := 35) (i := 0) dX6_firstFault_35 rfl rfl ?_
      refine x_iload_n (pc := 36) (i := 1) dX6_firstFault_36 rfl rfl ?_
      refine x_vs (pc := 37) (As := [_]) rfl hS lX6_33 dX6_firstFault_37 rfl rfl (Nat.le_of_ble_eq_true rfl) (c_X6_codeAt hTt (by omega)) ?_
      rintro _ _ ⟨rfl, hq⟩
      obtain rfl := hq.symm
      refine x_pushI ?_
      refine x_bipush (pc := 40) (v := 59) dX6_firstFault_40 (by decide) ?_
      refine x_icmp_ne (pc := 42) (tgt := 78) dX6_firstFault_42 (by decide) (fun h42 => ?_) (fun h42 => ?_)
      · refine x_iconst (pc := 78) (v := 0) dX6_firstFault_78 (by decide) ?_
        refine x_istore_n (pc := 79) (i := 2) (L' := [_, _, _, _]) dX6_firstFault_79 rfl (by decide) rfl ?_
        rw [if_neg (fun z => z.elim (fun y => h32 ((nI0 (by omega)).mpr y)) h42)] at hQ
        exact ff_W hT (by omega) 5 0 rfl hQ
      · have hcd : b = 0 ∨ cd (1 + 5 * b) = 59 := by first | exact Or.inl ((nI0 (by omega)).mp h32) | exact Or.inr h42
        refine x_aload_n (pc := 45) (i := 0) dX6_firstFault_45 rfl rfl ?_
        refine x_iload_n (pc := 46) (i := 1) dX6_firstFault_46 rfl rfl ?_
        refine x_vs (pc := 47) (As := [_]) rfl hS lX6_43 dX6_firstFault_47 rfl rfl (Nat.le_of_ble_eq_true rfl) (c_X6_stopInBarrow hTt (by omega)) ?_
        rintro _ _ ⟨rfl, hq⟩
        obtain rfl := hq.symm
        refine x_pushI ?_
        refine x_istore_n (pc := 50) (i := 3) (L' := [_, _, _, _]) dX6_firstFault_50 rfl (by decide) rfl ?_
        refine x_iload_n (pc := 51) (i := 3) dX6_firstFault_51 rfl rfl ?_
        refine x_iload_n (pc := 52) (i := 1) dX6_firstFault_52 rfl rfl ?_
        refine x_iconst (pc := 53) (v := 5) dX6_firstFault_53 (by decide) ?_
        refine x_iadd (pc := 54) dX6_firstFault_54 ?_
        rw [show nI (1 + 5 * b) + 5 = nI (1 + 5 * b + 5) from nI_add _ 5]
        refine x_icmp_eq (pc := 55) (tgt := 60) dX6_firstFault_55 (by decide) (fun h55 => ?_) (fun h55 => ?_)
        · have hst : stopB cd (1 + 5 * b) = 1 + 5 * b + 5 := (nI_eq (by omega) (by omega)).mp h55
          refine x_iload_n (pc := 60) (i := 3) dX6_firstFault_60 rfl rfl ?_
          refine x_istore_n (pc := 61) (i := 1) (L' := [_, _, _, _]) dX6_firstFault_61 rfl (by decide) rfl ?_
          rw [hst]
          refine x_aload_n (pc := 62) (i := 0) dX6_firstFault_62 rfl rfl ?_
          refine x_dup (pc := 63) dX6_firstFault_63 rfl ?_
          refine x_getI (pc := 64) hS fX6_37 dX6_firstFault_64 rfl rfl ?_
          refine x_iconst (pc := 67) (v := 1) dX6_firstFault_67 (by decide) ?_
          rw [tW_2 hT.1]
          refine x_iadd (pc := 68) dX6_firstFault_68 ?_
          rw [nI_1]
          refine x_putI (pc := 69) hS fX6_37 dX6_firstFault_69 rfl rfl rfl rfl (fun hS => ?_)
          rw [tW_b]
          refine x_iinc (pc := 72) (L' := [_, _, _, _]) dX6_firstFault_72 (by decide) rfl (by first | exact nI_inc _ | rfl) rfl ?_
          refine x_goto (pc := 75) (tgt := 26) dX6_firstFault_75 (by decide) ?_
          rw [if_pos hcd, if_pos hst] at hQ
          exact mJ.weak (wk_v (wk_v (wk_v (wk_n wk_0)))) (ih (b + 1) (by omega) hQ)
        · refine x_iload_n (pc := 58) (i := 3) dX6_firstFault_58 rfl rfl ?_
          refine x_ri (pc := 59) dX6_firstFault_59 rfl rfl ?_
          rw [if_pos hcd, if_neg (fun z => h55 (by rw [z]))] at hQ; exact hQ
theorem c_X6_firstFault {d : Nat} {w : mW} {n : Nat} {cd : Nat → Int32} (hT : cdX w n cd) : mC (d + 3) kX6_firstFault [.ref 5] w (fun r w' => r = some (.int (fwE (fT cd n).1)) ∧ w' = tW w (fT cd n).2.1 (fT cd n).2.2) := by
  have hS := hT.1
  have hTt := tW_T (b := 0) (c := 0) hT
  unfold fT
  refine mC.of (L := [_, _, _, _]) okX6_firstFault 3 rfl rfl ?_
  refine x_aload_n (pc := 0) (i := 0) dX6_firstFault_0 rfl rfl ?_
  refine x_iconst (pc := 1) (v := 0) dX6_firstFault_1 (by decide) ?_
  refine x_putI (pc := 2) hS fX6_37 dX6_firstFault_2 rfl rfl rfl rfl (fun hS => ?_)
  refine x_aload_n (pc := 5) (i := 0) dX6_firstFault_5 rfl rfl ?_
  refine x_iconst (pc := 6) (v := 0) dX6_firstFault_6 (by decide) ?_
  refine x_putI (pc := 7) hS fX6_40 dX6_firstFault_7 rfl rfl rfl rfl (fun hS => ?_)
  refine x_aload_n (pc := 10) (i := 0) dX6_firstFault_10 rfl rfl ?_
  refine x_iconst (pc := 11) (v := 0) dX6_firstFault_11 (by decide) ?_
  refine x_vs (pc := 12) (As := [_]) rfl hS lX6_33 dX6_firstFault_12 rfl rfl (Nat.le_of_ble_eq_true rfl) (c_X6_codeAt (p := 0) hTt (by omega)) ?_
  rintro _ _ ⟨rfl, hq⟩
  obtain rfl := hq.symm
  refine x_pushI ?_
  refine x_bipush (pc := 15) (v := 100) dX6_firstFault_15 (by decide) ?_
  refine x_icmp_eq (pc := 17) (tgt := 22) dX6_firstFault_17 (by decide) (fun h17 => ?_) (fun h17 => ?_)
  · refine x_iconst (pc := 22) (v := 1) dX6_firstFault_22 (by decide) ?_
    refine x_istore_n (pc := 23) (i := 1) (L' := [_, _, _, _]) dX6_firstFault_23 rfl (by decide) rfl ?_
    refine x_iconst (pc := 24) (v := 0) dX6_firstFault_24 (by decide) ?_
    refine x_istore_n (pc := 25) (i := 2) (L' := [_, _, _, _]) dX6_firstFault_25 rfl (by decide) rfl ?_
    rw [if_pos h17]
    exact ff_B hT 5 0 rfl ⟨rfl, rfl⟩
  · refine x_iconst (pc := 20) (v := 0) dX6_firstFault_20 (by decide) ?_
    refine x_ri (pc := 21) dX6_firstFault_21 rfl rfl ?_
    exact ⟨by rw [if_neg h17]; rfl, by rw [if_neg h17]; rfl⟩

