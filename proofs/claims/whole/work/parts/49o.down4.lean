-- down: the reference reads the text
def cdM (w : mW) (F n : Nat) (cd : Nat → Int32) : Prop := Shape w ∧ F + n ≤ 240 ∧ (∀ q, q < n → arr w 47 (F + q) = cd q) ∧ ∀ q, n ≤ q → cd q = -1
theorem cdM.gr {w w' : mW} {F n : Nat} {cd : Nat → Int32} {A : List Nat} {G : List (Nat × Nat)} (h : cdM w F n cd) (hS : Shape w') (g : Gr A G w w') (hA : 47 ∉ A) : cdM w' F n cd := ⟨hS, h.2.1, by rw [g.1 47 hA]; exact h.2.2.1, h.2.2.2⟩
theorem cdM.lt {w : mW} {F n p : Nat} {cd : Nat → Int32} (h : cdM w F n cd) (hp : ¬ cd p = -1) : p < n := by
  by_cases q : p < n
  · exact q
  · exact absurd (h.2.2.2 p (by omega)) hp
theorem c_X8_isSign {d : Nat} {w : mW} {F n p : Nat} {cd : Nat → Int32} {code : Int32} (hT : cdM w F n cd) (hp : p ≤ n) (hat : fld w 44 17 = nI (F + p)) (hc : ¬ code = -1) : mC d kX8_isSign [.ref 44, .int (nI (F + n)), .int code] w (fun r w' => r = some (.int (b2 (cd p = code))) ∧ w' = if cd p = code then setF w 44 17 (nI (F + (p + 1))) else w) := by
  obtain ⟨hS, hF, h3, h4⟩ := id hT
  have tp : (nI (F + p)).toInt = ((F + p : Nat) : Int) := nI_toInt (by omega)
  have tn : (nI (F + n)).toInt = ((F + n : Nat) : Int) := nI_toInt (by omega)
  refine mC.of (L := [_, _, _]) okX8_isSign 0 rfl rfl ?_
  refine x_aload_n (pc := 0) (i := 0) dX8_isSign_0 rfl rfl ?_
  refine x_getI (pc := 1) hS fX8_98 dX8_isSign_1 rfl rfl ?_
  refine x_iload_n (pc := 4) (i := 1) dX8_isSign_4 rfl rfl ?_
  rw [hat]
  refine x_icmp_ge (pc := 5) (tgt := 21) dX8_isSign_5 (by decide) (fun h5 => ?_) (fun h5 => ?_)
  · refine x_iconst (pc := 21) (v := 0) dX8_isSign_21 (by decide) ?_
    refine x_ri (pc := 22) dX8_isSign_22 rfl rfl ?_
    first | (have z9 : ¬ cd p = code := h18; exact ⟨by rw [b2_f z9], by rw [if_neg z9]⟩) | (have z8 : n ≤ p := (by rw [i_le, tp, tn] at h5; omega); have z9 : ¬ cd p = code := (fun z => hc (by rw [← z, h4 p z8])); exact ⟨by rw [b2_f z9], by rw [if_neg z9]⟩)
  · have hpn : p < n := by rw [i_le, tp, tn] at h5; omega
    refine x_aload_n (pc := 8) (i := 0) dX8_isSign_8 rfl rfl ?_
    refine x_getR (pc := 9) hS fX8_16 dX8_isSign_9 rfl rfl ?_
    refine x_aload_n (pc := 12) (i := 0) dX8_isSign_12 rfl rfl ?_
    refine x_getI (pc := 13) hS fX8_98 dX8_isSign_13 rfl rfl ?_
    rw [hat]
    refine x_aldN (pc := 16) hS dX8_isSign_16 rfl (by omega) (by decide) ?_
    rw [h3 p hpn]
    refine x_iload_n (pc := 17) (i := 2) dX8_isSign_17 rfl rfl ?_
    refine x_icmp_eq (pc := 18) (tgt := 23) dX8_isSign_18 (by decide) (fun h18 => ?_) (fun h18 => ?_)
    · refine x_aload_n (pc := 23) (i := 0) dX8_isSign_23 rfl rfl ?_
      refine x_dup (pc := 24) dX8_isSign_24 rfl ?_
      refine x_getI (pc := 25) hS fX8_98 dX8_isSign_25 rfl rfl ?_
      refine x_iconst (pc := 28) (v := 1) dX8_isSign_28 (by decide) ?_
      rw [hat]
      refine x_iadd (pc := 29) dX8_isSign_29 ?_
      rw [show nI (F + p) + 1 = nI (F + (p + 1)) from nI_1 (F + p)]
      refine x_putI (pc := 30) hS fX8_98 dX8_isSign_30 rfl rfl rfl rfl (fun hS => ?_)
      refine x_iconst (pc := 33) (v := 1) dX8_isSign_33 (by decide) ?_
      refine x_ri (pc := 34) dX8_isSign_34 rfl rfl ?_
      exact ⟨by rw [b2_t h18], by rw [if_pos h18]⟩
    · refine x_iconst (pc := 21) (v := 0) dX8_isSign_21 (by decide) ?_
      refine x_ri (pc := 22) dX8_isSign_22 rfl rfl ?_
      first | (have z9 : ¬ cd p = code := h18; exact ⟨by rw [b2_f z9], by rw [if_neg z9]⟩) | (have z8 : n ≤ p := (by rw [i_le, tp, tn] at h5; omega); have z9 : ¬ cd p = code := (fun z => hc (by rw [← z, h4 p z8])); exact ⟨by rw [b2_f z9], by rw [if_neg z9]⟩)
theorem c_X8_digit {d : Nat} {w : mW} {F n p : Nat} {cd : Nat → Int32} {a b x y : Int32} (hT : cdM w F n cd) (hp : p ≤ n) (hat : fld w 44 17 = nI (F + p)) (hx : 48 + a = x) (hy : 48 + b = y) (hc : ¬ x ≤ -1) : mC (d + 1) kX8_digit [.ref 44, .int (nI (F + n)), .int a, .int b] w (fun r w' => r = some (.int (if dg cd p x y then cd p - 48 else -9)) ∧ w' = if dg cd p x y then setF w 44 17 (nI (F + (p + 1))) else w) := by
  obtain ⟨hS, hF, h3, h4⟩ := id hT
  have tp : (nI (F + p)).toInt = ((F + p : Nat) : Int) := nI_toInt (by omega)
  have tn : (nI (F + n)).toInt = ((F + n : Nat) : Int) := nI_toInt (by omega)
  refine mC.of (L := [_, _, _, _]) okX8_digit 0 rfl rfl ?_
  refine x_aload_n (pc := 0) (i := 0) dX8_digit_0 rfl rfl ?_
  refine x_getI (pc := 1) hS fX8_98 dX8_digit_1 rfl rfl ?_
  refine x_iload_n (pc := 4) (i := 1) dX8_digit_4 rfl rfl ?_
  rw [hat]
  refine x_icmp_ge (pc := 5) (tgt := 31) dX8_digit_5 (by decide) (fun h5 => ?_) (fun h5 => ?_)
  · refine x_bipush (pc := 31) (v := (-9)) dX8_digit_31 (by decide) ?_
    refine x_ri (pc := 33) dX8_digit_33 rfl rfl ?_
    first | (have z9 := b2_e0.mp h28; exact ⟨by rw [if_neg z9], by rw [if_neg z9]⟩) | (have z8 : n ≤ p := (by rw [i_le, tp, tn] at h5; omega); have z9 : ¬ dg cd p x y := (fun z => hc (by rw [← h4 p z8]; exact z.1)); exact ⟨by rw [if_neg z9], by rw [if_neg z9]⟩)
  · have hpn : p < n := by rw [i_le, tp, tn] at h5; omega
    refine x_aload_n (pc := 8) (i := 0) dX8_digit_8 rfl rfl ?_
    refine x_getR (pc := 9) hS fX8_16 dX8_digit_9 rfl rfl ?_
    refine x_aload_n (pc := 12) (i := 0) dX8_digit_12 rfl rfl ?_
    refine x_getI (pc := 13) hS fX8_98 dX8_digit_13 rfl rfl ?_
    rw [hat]
    refine x_aldN (pc := 16) hS dX8_digit_16 rfl (by omega) (by decide) ?_
    rw [h3 p hpn]
    refine x_bipush (pc := 17) (v := 48) dX8_digit_17 (by decide) ?_
    refine x_iload_n (pc := 19) (i := 2) dX8_digit_19 rfl rfl ?_
    refine x_iadd (pc := 20) dX8_digit_20 ?_
    refine x_bipush (pc := 21) (v := 48) dX8_digit_21 (by decide) ?_
    refine x_iload_n (pc := 23) (i := 3) dX8_digit_23 rfl rfl ?_
    refine x_iadd (pc := 24) dX8_digit_24 ?_
    rw [hx, hy]
    refine x_ss (pc := 25) (As := [_, _, _]) rfl lX8_88 dX8_digit_25 rfl (Nat.le_of_ble_eq_true rfl) c_X8_within ?_
    rintro _ _ ⟨rfl, hq⟩
    obtain rfl := hq.symm
    refine x_pushI ?_
    refine x_if_ne (pc := 28) (tgt := 34) dX8_digit_28 (by decide) (fun h28 => ?_) (fun h28 => ?_)
    · have z9 := b2_n0.mp h28
      refine x_aload_n (pc := 34) (i := 0) dX8_digit_34 rfl rfl ?_
      refine x_dup (pc := 35) dX8_digit_35 rfl ?_
      refine x_getI (pc := 36) hS fX8_98 dX8_digit_36 rfl rfl ?_
      refine x_iconst (pc := 39) (v := 1) dX8_digit_39 (by decide) ?_
      rw [hat]
      refine x_iadd (pc := 40) dX8_digit_40 ?_
      rw [show nI (F + p) + 1 = nI (F + (p + 1)) from nI_1 (F + p)]
      refine x_putI (pc := 41) hS fX8_98 dX8_digit_41 rfl rfl rfl rfl (fun hS => ?_)
      refine x_aload_n (pc := 44) (i := 0) dX8_digit_44 rfl rfl ?_
      refine x_getR (pc := 45) hS fX8_16 dX8_digit_45 rfl rfl ?_
      refine x_aload_n (pc := 48) (i := 0) dX8_digit_48 rfl rfl ?_
      refine x_getI (pc := 49) hS fX8_98 dX8_digit_49 rfl rfl ?_
      refine x_iconst (pc := 52) (v := 1) dX8_digit_52 (by decide) ?_
      refine x_isub (pc := 53) dX8_digit_53 ?_
      rw [fld_setF hT.1 rfl rfl, show nI (F + (p + 1)) - 1 = nI (F + p) from nI_pred (F + p)]
      refine x_aldN (pc := 54) hS dX8_digit_54 rfl (by omega) (by decide) ?_
      rw [arr_setF, h3 p hpn]
      refine x_bipush (pc := 55) (v := 48) dX8_digit_55 (by decide) ?_
      refine x_isub (pc := 57) dX8_digit_57 ?_
      refine x_ri (pc := 58) dX8_digit_58 rfl rfl ?_
      exact ⟨by rw [if_pos z9], by rw [if_pos z9]⟩
    · refine x_bipush (pc := 31) (v := (-9)) dX8_digit_31 (by decide) ?_
      refine x_ri (pc := 33) dX8_digit_33 rfl rfl ?_
      first | (have z9 := b2_e0.mp h28; exact ⟨by rw [if_neg z9], by rw [if_neg z9]⟩) | (have z8 : n ≤ p := (by rw [i_le, tp, tn] at h5; omega); have z9 : ¬ dg cd p x y := (fun z => hc (by rw [← h4 p z8]; exact z.1)); exact ⟨by rw [if_neg z9], by rw [if_neg z9]⟩)
def dgV (cd : Nat → Int32) (p : Nat) (x y : Int32) : Int32 := if dg cd p x y then cd p - 48 else -9
def dgP (cd : Nat → Int32) (p : Nat) (x y : Int32) : Nat := if dg cd p x y then p + 1 else p
theorem dgV_9 {cd : Nat → Int32} {p : Nat} {x y : Int32} (hx : 48 ≤ x.toInt) (hy : y.toInt ≤ 57) (h : dgV cd p x y = -9) : ¬ dg cd p x y := by
  intro z
  unfold dgV at h
  rw [if_pos z] at h
  have z1 := z.1
  have z2 := z.2
  rw [i_le] at z1 z2
  have e : (cd p - 48).toInt = (cd p).toInt - 48 := by rw [i_sub, il_48] <;> rw [il_48] <;> omega
  rw [h, il_m9] at e
  omega
theorem dgV_n {cd : Nat → Int32} {p : Nat} {x y : Int32} (h : ¬ dgV cd p x y = -9) : dg cd p x y := by
  by_cases z : dg cd p x y
  · exact z
  · exact absurd (if_neg z) h
theorem dg_ne {cd : Nat → Int32} {p : Nat} {x y : Int32} (hx : 48 ≤ x.toInt) (h : dg cd p x y) : ¬ cd p = -1 := by
  intro z
  have z1 := h.1
  rw [z, i_le, il_m1] at z1
  omega
def rS (w0 : mW) (F X k p b : Nat) (R : Nat → Int32) (w : mW) : Prop := Shape w ∧ Gr [X] [(44, 17), (44, k)] w0 w ∧ fld w 44 17 = nI (F + p) ∧ fld w 44 k = nI b ∧ arr w X = R
theorem rS.stA {w0 w : mW} {F X k p b N : Nat} {R : Nat → Int32} (h : rS w0 F X k p b R w) (hX : mShp[X]? = some (.inl N)) (i : Nat) (x : Int32) : rS w0 F X k p b (upd R i x) (setA w X (upd (arr w X) i x)) := ⟨h.1.stA _ _, h.2.1.stA (List.mem_singleton.mpr rfl) _, by rw [fld_setA]; exact h.2.2.1, by rw [fld_setA]; exact h.2.2.2.1, by rw [arr_setA h.1 hX, h.2.2.2.2]⟩
theorem rS.at {w0 w : mW} {F X k p b : Nat} {R : Nat → Int32} (h : rS w0 F X k p b R w) (hk : k ≠ 17) (q : Nat) : rS w0 F X k q b R (setF w 44 17 (nI (F + q))) := ⟨h.1.stF rfl rfl _, h.2.1.stF (List.mem_cons_self) _, by rw [fld_setF h.1 rfl rfl], by rw [fld_setF_k hk]; exact h.2.2.2.1, by rw [arr_setF]; exact h.2.2.2.2⟩
theorem c_X8_digitS {d : Nat} {w0 w : mW} {F n X k p b : Nat} {cd : Nat → Int32} {R : Nat → Int32} {a e x y : Int32} (hT : cdM w0 F n cd) (hX : 47 ∉ [X]) (hk : k ≠ 17) (h : rS w0 F X k p b R w) (hp : p ≤ n) (hx : 48 + a = x) (hy : 48 + e = y) (hc : ¬ x ≤ -1) : mC (d + 1) kX8_digit [.ref 44, .int (nI (F + n)), .int a, .int e] w (fun r w' => r = some (.int (dgV cd p x y)) ∧ rS w0 F X k (dgP cd p x y) b R w') := by
  refine mC.mono (c_X8_digit (hT.gr h.1 h.2.1 hX) hp h.2.2.1 hx hy hc) ?_
  rintro _ w' ⟨rfl, hq⟩
  refine ⟨rfl, ?_⟩
  unfold dgP
  by_cases z : dg cd p x y
  · rw [if_pos z] at hq ⊢
    rw [hq]; exact h.at hk _
  · rw [if_neg z] at hq ⊢
    rw [hq]; exact h
def rbP (w : mW) (F X k q b stop full : Nat) (R : Nat → Int32) : Option Value → mW → Prop := fun r w' => r = some (.int (b2 (stop = full))) ∧ Shape w' ∧ Gr [X] [(44, 17), (44, k)] w w' ∧ fld w' 44 17 = nI (F + stop) ∧ (stop = full → fld w' 44 k = nI (b + 1) ∧ arr w' X = R)
theorem rb_no {w0 w : mW} {F X k q b p stop full : Nat} {R R' : Nat → Int32} (h : rS w0 F X k p b R' w) (e : stop = p) (hne : p ≠ full) : rbP w0 F X k q b stop full R (some (.int 0)) w := by
  subst e
  exact ⟨by rw [b2_f hne], h.1, h.2.1, h.2.2.1, fun z => absurd z hne⟩
theorem kdE_m1 : kdE (-1) = -9 := by decide
abbrev rbR (cd : Nat → Int32) (q b : Nat) (R : Nat → Int32) : Nat → Int32 := upd (upd (upd (upd R (4 * b) (kdE (cd (q + 1)))) (4 * b + 1) (dgV cd (q + 2) 49 52)) (4 * b + 2) (dgV cd (q + 3) 48 57)) (4 * b + 3) (dgV cd (q + 4) 48 57)
set_option maxHeartbeats 1000000 in
theorem c_X8_readBarrow {d : Nat} {w : mW} {F n q b : Nat} {cd : Nat → Int32} (hT : cdM w F n cd) (h59 : cd q = 59) (hq : q + 1 ≤ n) (hat : fld w 44 17 = nI (F + (q + 1))) (hrb : fld w 44 18 = nI b) (hb : b < 5) : mC (d + 2) kX8_readBarrow [.ref 44, .int (nI (F + n))] w (rbP w F 57 18 q b (stopB cd q) (q + 5) (rbR cd q b (arr w 57))) := by
  have hF := hT.2.1
  have tp : (nI (F + (q + 1))).toInt = ((F + (q + 1) : Nat) : Int) := nI_toInt (by omega)
  have tn : (nI (F + n)).toInt = ((F + n : Nat) : Int) := nI_toInt (by omega)
  have e0 : stopB cd q = if kdE (cd (q + 1)) = -9 then q + 1 else if ¬ dg cd (q + 2) 49 52 then q + 2 else if ¬ dg cd (q + 3) 48 57 then q + 3 else if ¬ dg cd (q + 4) 48 57 then q + 4 else q + 5 := if_neg (not_not_intro h59)
  have hR0 : rS w F 57 18 (q + 1) b (arr w 57) w := ⟨hT.1, Gr.rf, hat, hrb, rfl⟩
  have i1 : nI (4 * b) + 1 = nI (4 * b + 1) := nI_1 _
  have i2 : nI (4 * b) + 2 = nI (4 * b + 2) := nI_add _ 2
  have i3 : nI (4 * b) + 3 = nI (4 * b + 3) := nI_add _ 3
  have t66 : ∀ code : Int32, mJ mX0 (d + 2) kX8_readBarrow (rbP w F 57 18 q b (stopB cd q) (q + 5) (rbR cd q b (arr w 57))) 66 [.ref 44, .int (nI (F + n)), .int code, .int (nI (4 * b))] [.int (kdE (cd (q + 1))), .int (nI (4 * b)), .ref 57] w := by
    intro code
    have hS := hT.1
    refine x_astN (pc := 66) hS dX8_readBarrow_66 rfl (by omega) (by decide) (fun hS => ?_)
    have hR := hR0.stA (N := 20) rfl (4 * b) (kdE (cd (q + 1)))
    refine x_aload_n (pc := 67) (i := 0) dX8_readBarrow_67 rfl rfl ?_
    refine x_getR (pc := 68) hS fX8_46 dX8_readBarrow_68 rfl rfl ?_
    refine x_iload_n (pc := 71) (i := 3) dX8_readBarrow_71 rfl rfl ?_
    refine x_aldN (pc := 72) hS dX8_readBarrow_72 rfl (by omega) (by decide) ?_
    rw [show arr _ 57 (4 * b) = kdE (cd (q + 1)) from by rw [hR.2.2.2.2, pk_us]]
    refine x_bipush (pc := 73) (v := (-9)) dX8_readBarrow_73 (by decide) ?_
    refine x_icmp_ne (pc := 75) (tgt := 80) dX8_readBarrow_75 (by decide) (fun h75 => ?_) (fun h75 => ?_)
    · have k1 : q + 1 < n := hT.lt (fun z => h75 (by rw [z]; exact kdE_m1))
      refine x_aload_n (pc := 80) (i := 0) dX8_readBarrow_80 rfl rfl ?_
      refine x_dup (pc := 81) dX8_readBarrow_81 rfl ?_
      refine x_getI (pc := 82) hS fX8_98 dX8_readBarrow_82 rfl rfl ?_
      refine x_iconst (pc := 85) (v := 1) dX8_readBarrow_85 (by decide) ?_
      rw [hR.2.2.1]
      refine x_iadd (pc := 86) dX8_readBarrow_86 ?_
      rw [show nI (F + (q + 1)) + 1 = nI (F + (q + 2)) from nI_1 (F + (q + 1))]
      refine x_putI (pc := 87) hS fX8_98 dX8_readBarrow_87 rfl rfl rfl rfl (fun hS => ?_)
      have hR := hR.at (by decide) (q + 2)
      refine x_aload_n (pc := 90) (i := 0) dX8_readBarrow_90 rfl rfl ?_
      refine x_getR (pc := 91) hS fX8_46 dX8_readBarrow_91 rfl rfl ?_
      refine x_iload_n (pc := 94) (i := 3) dX8_readBarrow_94 rfl rfl ?_
      refine x_iconst (pc := 95) (v := 1) dX8_readBarrow_95 (by decide) ?_
      refine x_iadd (pc := 96) dX8_readBarrow_96 ?_
      refine x_aload_n (pc := 97) (i := 0) dX8_readBarrow_97 rfl rfl ?_
      refine x_iload_n (pc := 98) (i := 1) dX8_readBarrow_98 rfl rfl ?_
      refine x_iconst (pc := 99) (v := 1) dX8_readBarrow_99 (by decide) ?_
      refine x_iconst (pc := 100) (v := 4) dX8_readBarrow_100 (by decide) ?_
      refine x_vs (pc := 101) (As := [_, _, _]) rfl hS lX8_144 dX8_readBarrow_101 rfl rfl (Nat.le_of_ble_eq_true rfl) (c_X8_digitS (x := 49) (y := 52) hT (by decide) (by decide) hR (by omega) rfl rfl (by decide)) ?_
      rintro _ w2 ⟨rfl, hR⟩
      have hS := hR.1
      rw [i1]
      refine x_pushI ?_
      refine x_astN (pc := 104) hS dX8_readBarrow_104 rfl (by omega) (by decide) (fun hS => ?_)
      have hR := hR.stA (N := 20) rfl (4 * b + 1) (dgV cd (q + 2) 49 52)
      refine x_aload_n (pc := 105) (i := 0) dX8_readBarrow_105 rfl rfl ?_
      refine x_getR (pc := 106) hS fX8_46 dX8_readBarrow_106 rfl rfl ?_
      refine x_iload_n (pc := 109) (i := 3) dX8_readBarrow_109 rfl rfl ?_
      refine x_iconst (pc := 110) (v := 1) dX8_readBarrow_110 (by decide) ?_
      refine x_iadd (pc := 111) dX8_readBarrow_111 ?_
      rw [i1]
      refine x_aldN (pc := 112) hS dX8_readBarrow_112 rfl (by omega) (by decide) ?_
      rw [show arr _ 57 (4 * b + 1) = dgV cd (q + 2) 49 52 from by rw [hR.2.2.2.2, pk_us]]
      refine x_bipush (pc := 113) (v := (-9)) dX8_readBarrow_113 (by decide) ?_
      refine x_icmp_ne (pc := 115) (tgt := 120) dX8_readBarrow_115 (by decide) (fun h115 => ?_) (fun h115 => ?_)
      · have z2 := dgV_n h115
        have k2 : q + 2 < n := hT.lt (dg_ne (by decide) z2)
        unfold dgP at hR
        rw [if_pos z2] at hR
        refine x_aload_n (pc := 120) (i := 0) dX8_readBarrow_120 rfl rfl ?_
        refine x_getR (pc := 121) hS fX8_46 dX8_readBarrow_121 rfl rfl ?_
        refine x_iload_n (pc := 124) (i := 3) dX8_readBarrow_124 rfl rfl ?_
        refine x_iconst (pc := 125) (v := 2) dX8_readBarrow_125 (by decide) ?_
        refine x_iadd (pc := 126) dX8_readBarrow_126 ?_
        refine x_aload_n (pc := 127) (i := 0) dX8_readBarrow_127 rfl rfl ?_
        refine x_iload_n (pc := 128) (i := 1) dX8_readBarrow_128 rfl rfl ?_
        refine x_iconst (pc := 129) (v := 0) dX8_readBarrow_129 (by decide) ?_
        refine x_bipush (pc := 130) (v := 9) dX8_readBarrow_130 (by decide) ?_
        refine x_vs (pc := 132) (As := [_, _, _]) rfl hS lX8_144 dX8_readBarrow_132 rfl rfl (Nat.le_of_ble_eq_true rfl) (c_X8_digitS (x := 48) (y := 57) hT (by decide) (by decide) hR (by omega) rfl rfl (by decide)) ?_
        rintro _ w3 ⟨rfl, hR⟩
        have hS := hR.1
        rw [i2]
        refine x_pushI ?_
        refine x_astN (pc := 135) hS dX8_readBarrow_135 rfl (by omega) (by decide) (fun hS => ?_)
        have hR := hR.stA (N := 20) rfl (4 * b + 2) (dgV cd (q + 3) 48 57)
        refine x_aload_n (pc := 136) (i := 0) dX8_readBarrow_136 rfl rfl ?_
        refine x_getR (pc := 137) hS fX8_46 dX8_readBarrow_137 rfl rfl ?_
        refine x_iload_n (pc := 140) (i := 3) dX8_readBarrow_140 rfl rfl ?_
        refine x_iconst (pc := 141) (v := 2) dX8_readBarrow_141 (by decide) ?_
        refine x_iadd (pc := 142) dX8_readBarrow_142 ?_
        rw [i2]
        refine x_aldN (pc := 143) hS dX8_readBarrow_143 rfl (by omega) (by decide) ?_
        rw [show arr _ 57 (4 * b + 2) = dgV cd (q + 3) 48 57 from by rw [hR.2.2.2.2, pk_us]]
        refine x_bipush (pc := 144) (v := (-9)) dX8_readBarrow_144 (by decide) ?_
        refine x_icmp_ne (pc := 146) (tgt := 151) dX8_readBarrow_146 (by decide) (fun h146 => ?_) (fun h146 => ?_)
        · have z3 := dgV_n h146
          have k3 : q + 3 < n := hT.lt (dg_ne (by decide) z3)
          unfold dgP at hR
          rw [if_pos z3] at hR
          refine x_aload_n (pc := 151) (i := 0) dX8_readBarrow_151 rfl rfl ?_
          refine x_getR (pc := 152) hS fX8_46 dX8_readBarrow_152 rfl rfl ?_
          refine x_iload_n (pc := 155) (i := 3) dX8_readBarrow_155 rfl rfl ?_
          refine x_iconst (pc := 156) (v := 3) dX8_readBarrow_156 (by decide) ?_
          refine x_iadd (pc := 157) dX8_readBarrow_157 ?_
          refine x_aload_n (pc := 158) (i := 0) dX8_readBarrow_158 rfl rfl ?_
          refine x_iload_n (pc := 159) (i := 1) dX8_readBarrow_159 rfl rfl ?_
          refine x_iconst (pc := 160) (v := 0) dX8_readBarrow_160 (by decide) ?_
          refine x_bipush (pc := 161) (v := 9) dX8_readBarrow_161 (by decide) ?_
          refine x_vs (pc := 163) (As := [_, _, _]) rfl hS lX8_144 dX8_readBarrow_163 rfl rfl (Nat.le_of_ble_eq_true rfl) (c_X8_digitS (x := 48) (y := 57) hT (by decide) (by decide) hR (by omega) rfl rfl (by decide)) ?_
          rintro _ w4 ⟨rfl, hR⟩
          have hS := hR.1
          rw [i3]
          refine x_pushI ?_
          refine x_astN (pc := 166) hS dX8_readBarrow_166 rfl (by omega) (by decide) (fun hS => ?_)
          have hR := hR.stA (N := 20) rfl (4 * b + 3) (dgV cd (q + 4) 48 57)
          refine x_aload_n (pc := 167) (i := 0) dX8_readBarrow_167 rfl rfl ?_
          refine x_dup (pc := 168) dX8_readBarrow_168 rfl ?_
          refine x_getI (pc := 169) hS fX8_122 dX8_readBarrow_169 rfl rfl ?_
          refine x_iconst (pc := 172) (v := 1) dX8_readBarrow_172 (by decide) ?_
          rw [hR.2.2.2.1]
          refine x_iadd (pc := 173) dX8_readBarrow_173 ?_
          rw [nI_1]
          refine x_putI (pc := 174) hS fX8_122 dX8_readBarrow_174 rfl rfl rfl rfl (fun hS => ?_)
          refine x_aload_n (pc := 177) (i := 0) dX8_readBarrow_177 rfl rfl ?_
          refine x_getR (pc := 178) hS fX8_46 dX8_readBarrow_178 rfl rfl ?_
          refine x_iload_n (pc := 181) (i := 3) dX8_readBarrow_181 rfl rfl ?_
          refine x_iconst (pc := 182) (v := 3) dX8_readBarrow_182 (by decide) ?_
          refine x_iadd (pc := 183) dX8_readBarrow_183 ?_
          rw [i3]
          refine x_aldN (pc := 184) hS dX8_readBarrow_184 rfl (by omega) (by decide) ?_
          rw [arr_setF, show arr _ 57 (4 * b + 3) = dgV cd (q + 4) 48 57 from by rw [hR.2.2.2.2, pk_us]]
          refine x_bipush (pc := 185) (v := (-9)) dX8_readBarrow_185 (by decide) ?_
          refine x_icmp_eq (pc := 187) (tgt := 194) dX8_readBarrow_187 (by decide) (fun h187 => ?_) (fun h187 => ?_)
          · refine x_iconst (pc := 194) (v := 0) dX8_readBarrow_194 (by decide) ?_
            refine x_ri (pc := 195) dX8_readBarrow_195 rfl rfl ?_
            first | (have z4 := dgV_n h187; unfold dgP at hR; rw [if_pos z4] at hR; have e9 : stopB cd q = q + 5 := (by rw [e0, if_neg h75, if_neg (not_not_intro z2), if_neg (not_not_intro z3), if_neg (not_not_intro z4)]); exact ⟨by rw [b2_t e9], hS, hR.2.1.stF (by decide) _, by rw [e9, fld_setF_k (by decide)]; exact hR.2.2.1, fun _ => ⟨fld_setF hR.1 rfl rfl _, by rw [arr_setF]; exact hR.2.2.2.2⟩⟩) | (have z4 := dgV_9 (by decide) (by decide) h187; unfold dgP at hR; rw [if_neg z4] at hR; have e9 : stopB cd q = q + 4 := (by rw [e0, if_neg h75, if_neg (not_not_intro z2), if_neg (not_not_intro z3), if_pos z4]); exact ⟨by rw [b2_f (by rw [e9]; omega)], hS, hR.2.1.stF (by decide) _, by rw [e9, fld_setF_k (by decide)]; exact hR.2.2.1, fun z => absurd (e9.symm.trans z) (by omega)⟩)
          · refine x_iconst (pc := 190) (v := 1) dX8_readBarrow_190 (by decide) ?_
            refine x_goto (pc := 191) (tgt := 195) dX8_readBarrow_191 (by decide) ?_
            refine x_ri (pc := 195) dX8_readBarrow_195 rfl rfl ?_
            first | (have z4 := dgV_n h187; unfold dgP at hR; rw [if_pos z4] at hR; have e9 : stopB cd q = q + 5 := (by rw [e0, if_neg h75, if_neg (not_not_intro z2), if_neg (not_not_intro z3), if_neg (not_not_intro z4)]); exact ⟨by rw [b2_t e9], hS, hR.2.1.stF (by decide) _, by rw [e9, fld_setF_k (by decide)]; exact hR.2.2.1, fun _ => ⟨fld_setF hR.1 rfl rfl _, by rw [arr_setF]; exact hR.2.2.2.2⟩⟩) | (have z4 := dgV_9 (by decide) (by decide) h187; unfold dgP at hR; rw [if_neg z4] at hR; have e9 : stopB cd q = q + 4 := (by rw [e0, if_neg h75, if_neg (not_not_intro z2), if_neg (not_not_intro z3), if_pos z4]); exact ⟨by rw [b2_f (by rw [e9]; omega)], hS, hR.2.1.stF (by decide) _, by rw [e9, fld_setF_k (by decide)]; exact hR.2.2.1, fun z => absurd (e9.symm.trans z) (by omega)⟩)
        · refine x_iconst (pc := 149) (v := 0) dX8_readBarrow_149 (by decide) ?_
          refine x_ri (pc := 150) dX8_readBarrow_150 rfl rfl ?_
          have z3 := dgV_9 (by decide) (by decide) h146
          unfold dgP at hR
          rw [if_neg z3] at hR
          exact rb_no hR (by rw [e0, if_neg h75, if_neg (not_not_intro z2), if_pos z3]) (by omega)
      · refine x_iconst (pc := 118) (v := 0) dX8_readBarrow_118 (by decide) ?_
        refine x_ri (pc := 119) dX8_readBarrow_119 rfl rfl ?_
        have z2 := dgV_9 (by decide) (by decide) h115
        unfold dgP at hR
        rw [if_neg z2] at hR
        exact rb_no hR (by rw [e0, if_neg h75, if_pos z2]) (by omega)
    · refine x_iconst (pc := 78) (v := 0) dX8_readBarrow_78 (by decide) ?_
      refine x_ri (pc := 79) dX8_readBarrow_79 rfl rfl ?_
      exact rb_no hR (by rw [e0, if_pos h75]) (by omega)
  have t21 : ∀ code : Int32, kdE code = kdE (cd (q + 1)) → mJ mX0 (d + 2) kX8_readBarrow (rbP w F 57 18 q b (stopB cd q) (q + 5) (rbR cd q b (arr w 57))) 21 [.ref 44, .int (nI (F + n)), .null, .null] [.int code] w := by
    intro code hk
    have hS := hT.1
    have t := t66 code
    rw [← hk] at t
    refine x_istore_n (pc := 21) (i := 2) (L' := [_, _, _, _]) dX8_readBarrow_21 rfl (by decide) rfl ?_
    refine x_iconst (pc := 22) (v := 4) dX8_readBarrow_22 (by decide) ?_
    refine x_aload_n (pc := 23) (i := 0) dX8_readBarrow_23 rfl rfl ?_
    refine x_getI (pc := 24) hS fX8_122 dX8_readBarrow_24 rfl rfl ?_
    rw [hrb]
    refine x_imul (pc := 27) dX8_readBarrow_27 ?_
    rw [show (4 : Int32) * nI b = nI (4 * b) from pk_mul 4 b]
    refine x_istore_n (pc := 28) (i := 3) (L' := [_, _, _, _]) dX8_readBarrow_28 rfl (by decide) rfl ?_
    refine x_aload_n (pc := 29) (i := 0) dX8_readBarrow_29 rfl rfl ?_
    refine x_getR (pc := 30) hS fX8_46 dX8_readBarrow_30 rfl rfl ?_
    refine x_iload_n (pc := 33) (i := 3) dX8_readBarrow_33 rfl rfl ?_
    refine x_iload_n (pc := 34) (i := 2) dX8_readBarrow_34 rfl rfl ?_
    refine x_bipush (pc := 35) (v := 114) dX8_readBarrow_35 (by decide) ?_
    refine x_icmp_ne (pc := 37) (tgt := 44) dX8_readBarrow_37 (by decide) (fun h37 => ?_) (fun h37 => ?_)
    · refine x_iload_n (pc := 44) (i := 2) dX8_readBarrow_44 rfl rfl ?_
      refine x_bipush (pc := 45) (v := 108) dX8_readBarrow_45 (by decide) ?_
      refine x_icmp_ne (pc := 47) (tgt := 54) dX8_readBarrow_47 (by decide) (fun h47 => ?_) (fun h47 => ?_)
      · refine x_iload_n (pc := 54) (i := 2) dX8_readBarrow_54 rfl rfl ?_
        refine x_bipush (pc := 55) (v := 103) dX8_readBarrow_55 (by decide) ?_
        refine x_icmp_ne (pc := 57) (tgt := 64) dX8_readBarrow_57 (by decide) (fun h57 => ?_) (fun h57 => ?_)
        · refine x_bipush (pc := 64) (v := (-9)) dX8_readBarrow_64 (by decide) ?_
          first | (rw [show kdE code = 0 from by rw [h37]; rfl] at t; exact t) | (rw [show kdE code = 1 from by rw [h47]; rfl] at t; exact t) | (rw [show kdE code = 2 from by rw [h57]; rfl] at t; exact t) | (rw [show kdE code = -9 from by unfold kdE; rw [if_neg h57, if_neg h47, if_neg h37]] at t; exact t)
        · refine x_iconst (pc := 60) (v := 2) dX8_readBarrow_60 (by decide) ?_
          refine x_goto (pc := 61) (tgt := 66) dX8_readBarrow_61 (by decide) ?_
          first | (rw [show kdE code = 0 from by rw [h37]; rfl] at t; exact t) | (rw [show kdE code = 1 from by rw [h47]; rfl] at t; exact t) | (rw [show kdE code = 2 from by rw [h57]; rfl] at t; exact t) | (rw [show kdE code = -9 from by unfold kdE; rw [if_neg h57, if_neg h47, if_neg h37]] at t; exact t)
      · refine x_iconst (pc := 50) (v := 1) dX8_readBarrow_50 (by decide) ?_
        refine x_goto (pc := 51) (tgt := 66) dX8_readBarrow_51 (by decide) ?_
        first | (rw [show kdE code = 0 from by rw [h37]; rfl] at t; exact t) | (rw [show kdE code = 1 from by rw [h47]; rfl] at t; exact t) | (rw [show kdE code = 2 from by rw [h57]; rfl] at t; exact t) | (rw [show kdE code = -9 from by unfold kdE; rw [if_neg h57, if_neg h47, if_neg h37]] at t; exact t)
    · refine x_iconst (pc := 40) (v := 0) dX8_readBarrow_40 (by decide) ?_
      refine x_goto (pc := 41) (tgt := 66) dX8_readBarrow_41 (by decide) ?_
      first | (rw [show kdE code = 0 from by rw [h37]; rfl] at t; exact t) | (rw [show kdE code = 1 from by rw [h47]; rfl] at t; exact t) | (rw [show kdE code = 2 from by rw [h57]; rfl] at t; exact t) | (rw [show kdE code = -9 from by unfold kdE; rw [if_neg h57, if_neg h47, if_neg h37]] at t; exact t)
  have hS := hT.1
  refine mC.of (L := [_, _, _, _]) okX8_readBarrow 2 rfl rfl ?_
  refine x_aload_n (pc := 0) (i := 0) dX8_readBarrow_0 rfl rfl ?_
  refine x_getI (pc := 1) hS fX8_98 dX8_readBarrow_1 rfl rfl ?_
  refine x_iload_n (pc := 4) (i := 1) dX8_readBarrow_4 rfl rfl ?_
  rw [hat]
  refine x_icmp_ge (pc := 5) (tgt := 20) dX8_readBarrow_5 (by decide) (fun h5 => ?_) (fun h5 => ?_)
  · refine x_iconst (pc := 20) (v := 0) dX8_readBarrow_20 (by decide) ?_
    first | exact t21 _ rfl | (have z8 : n ≤ q + 1 := (by rw [i_le, tp, tn] at h5; omega); exact t21 0 (by rw [hT.2.2.2 (q + 1) z8]; rfl))
  · have hpn : q + 1 < n := by rw [i_le, tp, tn] at h5; omega
    refine x_aload_n (pc := 8) (i := 0) dX8_readBarrow_8 rfl rfl ?_
    refine x_getR (pc := 9) hS fX8_16 dX8_readBarrow_9 rfl rfl ?_
    refine x_aload_n (pc := 12) (i := 0) dX8_readBarrow_12 rfl rfl ?_
    refine x_getI (pc := 13) hS fX8_98 dX8_readBarrow_13 rfl rfl ?_
    rw [hat]
    refine x_aldN (pc := 16) hS dX8_readBarrow_16 rfl (by omega) (by decide) ?_
    rw [hT.2.2.1 (q + 1) hpn]
    refine x_goto (pc := 17) (tgt := 21) dX8_readBarrow_17 (by decide) ?_
    first | exact t21 _ rfl | (have z8 : n ≤ q + 1 := (by rw [i_le, tp, tn] at h5; omega); exact t21 0 (by rw [hT.2.2.2 (q + 1) z8]; rfl))
abbrev rwR (cd : Nat → Int32) (q c : Nat) (R : Nat → Int32) : Nat → Int32 := upd (upd (upd R (3 * c) (dgV cd (q + 1) 48 57)) (3 * c + 1) (dgV cd (q + 2) 48 57)) (3 * c + 2) (dgV cd (q + 3) 49 57)
set_option maxHeartbeats 1000000 in
theorem c_X8_readWalker {d : Nat} {w : mW} {F n q c : Nat} {cd : Nat → Int32} (hT : cdM w F n cd) (h44 : cd q = 44) (hq : q + 1 ≤ n) (hat : fld w 44 17 = nI (F + (q + 1))) (hrb : fld w 44 19 = nI c) (hb : c < 5) : mC (d + 2) kX8_readWalker [.ref 44, .int (nI (F + n))] w (rbP w F 58 19 q c (stopW cd q) (q + 4) (rwR cd q c (arr w 58))) := by
  have hF := hT.2.1
  have hS := hT.1
  have e0 : stopW cd q = if ¬ dg cd (q + 1) 48 57 then q + 1 else if ¬ dg cd (q + 2) 48 57 then q + 2 else if ¬ dg cd (q + 3) 49 57 then q + 3 else q + 4 := if_neg (not_not_intro h44)
  have hR : rS w F 58 19 (q + 1) c (arr w 58) w := ⟨hT.1, Gr.rf, hat, hrb, rfl⟩
  have i1 : nI (3 * c) + 1 = nI (3 * c + 1) := nI_1 _
  have i2 : nI (3 * c) + 2 = nI (3 * c + 2) := nI_add _ 2
  refine mC.of (L := [_, _, _]) okX8_readWalker 1 rfl rfl ?_
  refine x_iconst (pc := 0) (v := 3) dX8_readWalker_0 (by decide) ?_
  refine x_aload_n (pc := 1) (i := 0) dX8_readWalker_1 rfl rfl ?_
  refine x_getI (pc := 2) hS fX8_125 dX8_readWalker_2 rfl rfl ?_
  rw [hrb]
  refine x_imul (pc := 5) dX8_readWalker_5 ?_
  rw [show (3 : Int32) * nI c = nI (3 * c) from pk_mul 3 c]
  refine x_istore_n (pc := 6) (i := 2) (L' := [_, _, _]) dX8_readWalker_6 rfl (by decide) rfl ?_
  refine x_aload_n (pc := 7) (i := 0) dX8_readWalker_7 rfl rfl ?_
  refine x_getR (pc := 8) hS fX8_49 dX8_readWalker_8 rfl rfl ?_
  refine x_iload_n (pc := 11) (i := 2) dX8_readWalker_11 rfl rfl ?_
  refine x_aload_n (pc := 12) (i := 0) dX8_readWalker_12 rfl rfl ?_
  refine x_iload_n (pc := 13) (i := 1) dX8_readWalker_13 rfl rfl ?_
  refine x_iconst (pc := 14) (v := 0) dX8_readWalker_14 (by decide) ?_
  refine x_bipush (pc := 15) (v := 9) dX8_readWalker_15 (by decide) ?_
  refine x_vs (pc := 17) (As := [_, _, _]) rfl hS lX8_144 dX8_readWalker_17 rfl rfl (Nat.le_of_ble_eq_true rfl) (c_X8_digitS (x := 48) (y := 57) hT (by decide) (by decide) hR (by omega) rfl rfl (by decide)) ?_
  rintro _ w2 ⟨rfl, hR⟩
  have hS := hR.1
  refine x_pushI ?_
  refine x_astN (pc := 20) hS dX8_readWalker_20 rfl (by omega) (by decide) (fun hS => ?_)
  have hR := hR.stA (N := 15) rfl (3 * c) (dgV cd (q + 1) 48 57)
  refine x_aload_n (pc := 21) (i := 0) dX8_readWalker_21 rfl rfl ?_
  refine x_getR (pc := 22) hS fX8_49 dX8_readWalker_22 rfl rfl ?_
  refine x_iload_n (pc := 25) (i := 2) dX8_readWalker_25 rfl rfl ?_
  refine x_aldN (pc := 26) hS dX8_readWalker_26 rfl (by omega) (by decide) ?_
  rw [show arr _ 58 (3 * c) = dgV cd (q + 1) 48 57 from by rw [hR.2.2.2.2, pk_us]]
  refine x_bipush (pc := 27) (v := (-9)) dX8_readWalker_27 (by decide) ?_
  refine x_icmp_ne (pc := 29) (tgt := 34) dX8_readWalker_29 (by decide) (fun h29 => ?_) (fun h29 => ?_)
  · have z1 := dgV_n h29
    have k1 : q + 1 < n := hT.lt (dg_ne (by decide) z1)
    unfold dgP at hR
    rw [if_pos z1] at hR
    refine x_aload_n (pc := 34) (i := 0) dX8_readWalker_34 rfl rfl ?_
    refine x_getR (pc := 35) hS fX8_49 dX8_readWalker_35 rfl rfl ?_
    refine x_iload_n (pc := 38) (i := 2) dX8_readWalker_38 rfl rfl ?_
    refine x_iconst (pc := 39) (v := 1) dX8_readWalker_39 (by decide) ?_
    refine x_iadd (pc := 40) dX8_readWalker_40 ?_
    refine x_aload_n (pc := 41) (i := 0) dX8_readWalker_41 rfl rfl ?_
    refine x_iload_n (pc := 42) (i := 1) dX8_readWalker_42 rfl rfl ?_
    refine x_iconst (pc := 43) (v := 0) dX8_readWalker_43 (by decide) ?_
    refine x_bipush (pc := 44) (v := 9) dX8_readWalker_44 (by decide) ?_
    refine x_vs (pc := 46) (As := [_, _, _]) rfl hS lX8_144 dX8_readWalker_46 rfl rfl (Nat.le_of_ble_eq_true rfl) (c_X8_digitS (x := 48) (y := 57) hT (by decide) (by decide) hR (by omega) rfl rfl (by decide)) ?_
    rintro _ w3 ⟨rfl, hR⟩
    have hS := hR.1
    rw [i1]
    refine x_pushI ?_
    refine x_astN (pc := 49) hS dX8_readWalker_49 rfl (by omega) (by decide) (fun hS => ?_)
    have hR := hR.stA (N := 15) rfl (3 * c + 1) (dgV cd (q + 2) 48 57)
    refine x_aload_n (pc := 50) (i := 0) dX8_readWalker_50 rfl rfl ?_
    refine x_getR (pc := 51) hS fX8_49 dX8_readWalker_51 rfl rfl ?_
    refine x_iload_n (pc := 54) (i := 2) dX8_readWalker_54 rfl rfl ?_
    refine x_iconst (pc := 55) (v := 1) dX8_readWalker_55 (by decide) ?_
    refine x_iadd (pc := 56) dX8_readWalker_56 ?_
    rw [i1]
    refine x_aldN (pc := 57) hS dX8_readWalker_57 rfl (by omega) (by decide) ?_
    rw [show arr _ 58 (3 * c + 1) = dgV cd (q + 2) 48 57 from by rw [hR.2.2.2.2, pk_us]]
    refine x_bipush (pc := 58) (v := (-9)) dX8_readWalker_58 (by decide) ?_
    refine x_icmp_ne (pc := 60) (tgt := 65) dX8_readWalker_60 (by decide) (fun h60 => ?_) (fun h60 => ?_)
    · have z2 := dgV_n h60
      have k2 : q + 2 < n := hT.lt (dg_ne (by decide) z2)
      unfold dgP at hR
      rw [if_pos z2] at hR
      refine x_aload_n (pc := 65) (i := 0) dX8_readWalker_65 rfl rfl ?_
      refine x_getR (pc := 66) hS fX8_49 dX8_readWalker_66 rfl rfl ?_
      refine x_iload_n (pc := 69) (i := 2) dX8_readWalker_69 rfl rfl ?_
      refine x_iconst (pc := 70) (v := 2) dX8_readWalker_70 (by decide) ?_
      refine x_iadd (pc := 71) dX8_readWalker_71 ?_
      refine x_aload_n (pc := 72) (i := 0) dX8_readWalker_72 rfl rfl ?_
      refine x_iload_n (pc := 73) (i := 1) dX8_readWalker_73 rfl rfl ?_
      refine x_iconst (pc := 74) (v := 1) dX8_readWalker_74 (by decide) ?_
      refine x_bipush (pc := 75) (v := 9) dX8_readWalker_75 (by decide) ?_
      refine x_vs (pc := 77) (As := [_, _, _]) rfl hS lX8_144 dX8_readWalker_77 rfl rfl (Nat.le_of_ble_eq_true rfl) (c_X8_digitS (x := 49) (y := 57) hT (by decide) (by decide) hR (by omega) rfl rfl (by decide)) ?_
      rintro _ w4 ⟨rfl, hR⟩
      have hS := hR.1
      rw [i2]
      refine x_pushI ?_
      refine x_astN (pc := 80) hS dX8_readWalker_80 rfl (by omega) (by decide) (fun hS => ?_)
      have hR := hR.stA (N := 15) rfl (3 * c + 2) (dgV cd (q + 3) 49 57)
      refine x_aload_n (pc := 81) (i := 0) dX8_readWalker_81 rfl rfl ?_
      refine x_dup (pc := 82) dX8_readWalker_82 rfl ?_
      refine x_getI (pc := 83) hS fX8_125 dX8_readWalker_83 rfl rfl ?_
      refine x_iconst (pc := 86) (v := 1) dX8_readWalker_86 (by decide) ?_
      rw [hR.2.2.2.1]
      refine x_iadd (pc := 87) dX8_readWalker_87 ?_
      rw [nI_1]
      refine x_putI (pc := 88) hS fX8_125 dX8_readWalker_88 rfl rfl rfl rfl (fun hS => ?_)
      refine x_aload_n (pc := 91) (i := 0) dX8_readWalker_91 rfl rfl ?_
      refine x_getR (pc := 92) hS fX8_49 dX8_readWalker_92 rfl rfl ?_
      refine x_iload_n (pc := 95) (i := 2) dX8_readWalker_95 rfl rfl ?_
      refine x_iconst (pc := 96) (v := 2) dX8_readWalker_96 (by decide) ?_
      refine x_iadd (pc := 97) dX8_readWalker_97 ?_
      rw [i2]
      refine x_aldN (pc := 98) hS dX8_readWalker_98 rfl (by omega) (by decide) ?_
      rw [arr_setF, show arr _ 58 (3 * c + 2) = dgV cd (q + 3) 49 57 from by rw [hR.2.2.2.2, pk_us]]
      refine x_bipush (pc := 99) (v := (-9)) dX8_readWalker_99 (by decide) ?_
      refine x_icmp_eq (pc := 101) (tgt := 108) dX8_readWalker_101 (by decide) (fun h101 => ?_) (fun h101 => ?_)
      · refine x_iconst (pc := 108) (v := 0) dX8_readWalker_108 (by decide) ?_
        refine x_ri (pc := 109) dX8_readWalker_109 rfl rfl ?_
        first | (have z3 := dgV_n h101; unfold dgP at hR; rw [if_pos z3] at hR; have e9 : stopW cd q = q + 4 := (by rw [e0, if_neg (not_not_intro z1), if_neg (not_not_intro z2), if_neg (not_not_intro z3)]); exact ⟨by rw [b2_t e9], hS, hR.2.1.stF (by decide) _, by rw [e9, fld_setF_k (by decide)]; exact hR.2.2.1, fun _ => ⟨fld_setF hR.1 rfl rfl _, by rw [arr_setF]; exact hR.2.2.2.2⟩⟩) | (have z3 := dgV_9 (by decide) (by decide) h101; unfold dgP at hR; rw [if_neg z3] at hR; have e9 : stopW cd q = q + 3 := (by rw [e0, if_neg (not_not_intro z1), if_neg (not_not_intro z2), if_pos z3]); exact ⟨by rw [b2_f (by rw [e9]; omega)], hS, hR.2.1.stF (by decide) _, by rw [e9, fld_setF_k (by decide)]; exact hR.2.2.1, fun z => absurd (e9.symm.trans z) (by omega)⟩)
      · refine x_iconst (pc := 104) (v := 1) dX8_readWalker_104 (by decide) ?_
        refine x_goto (pc := 105) (tgt := 109) dX8_readWalker_105 (by decide) ?_
        refine x_ri (pc := 109) dX8_readWalker_109 rfl rfl ?_
        first | (have z3 := dgV_n h101; unfold dgP at hR; rw [if_pos z3] at hR; have e9 : stopW cd q = q + 4 := (by rw [e0, if_neg (not_not_intro z1), if_neg (not_not_intro z2), if_neg (not_not_intro z3)]); exact ⟨by rw [b2_t e9], hS, hR.2.1.stF (by decide) _, by rw [e9, fld_setF_k (by decide)]; exact hR.2.2.1, fun _ => ⟨fld_setF hR.1 rfl rfl _, by rw [arr_setF]; exact hR.2.2.2.2⟩⟩) | (have z3 := dgV_9 (by decide) (by decide) h101; unfold dgP at hR; rw [if_neg z3] at hR; have e9 : stopW cd q = q + 3 := (by rw [e0, if_neg (not_not_intro z1), if_neg (not_not_intro z2), if_pos z3]); exact ⟨by rw [b2_f (by rw [e9]; omega)], hS, hR.2.1.stF (by decide) _, by rw [e9, fld_setF_k (by decide)]; exact hR.2.2.1, fun z => absurd (e9.symm.trans z) (by omega)⟩)
    · refine x_iconst (pc := 63) (v := 0) dX8_readWalker_63 (by decide) ?_
      refine x_ri (pc := 64) dX8_readWalker_64 rfl rfl ?_
      have z2 := dgV_9 (by decide) (by decide) h60
      unfold dgP at hR
      rw [if_neg z2] at hR
      exact rb_no hR (by rw [e0, if_neg (not_not_intro z1), if_pos z2]) (by omega)
  · refine x_iconst (pc := 32) (v := 0) dX8_readWalker_32 (by decide) ?_
    refine x_ri (pc := 33) dX8_readWalker_33 rfl rfl ?_
    have z1 := dgV_9 (by decide) (by decide) h29
    unfold dgP at hR
    rw [if_neg z1] at hR
    exact rb_no hR (by rw [e0, if_pos z1]) (by omega)

