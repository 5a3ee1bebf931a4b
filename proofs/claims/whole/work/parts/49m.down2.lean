-- down: what is made anew; the class's call
def tC (w : mW) (s i0 n : Nat) : Nat → Int32 := fun q => if q < n then arr w 4 (60 * s + (i0 + q)) else -1
theorem c_X6_load {d : Nat} {w : mW} {s i0 n N : Nat} (hS0 : Shape w) (hs : s < 4) (hsz : arr w 3 s = nI N) (hN : N ≤ 60) (hi : i0 + n ≤ N) : mC (d + 3) kX6_load [.ref 5, .ref 1, .int (nI s), .int (nI i0), .int (nI n)] w (fun r w' => r = none ∧ cdX w' n (tC w s i0 n) ∧ Gr [6] [(5, 1)] w w') := by
  have tn : (nI n).toInt = (n : Int) := nI_toInt (by omega)
  have hS1 : Shape (setF w 5 1 (nI n)) := hS0.stF rfl rfl _
  have g1 : Gr [6] [(5, 1)] w (setF w 5 1 (nI n)) := Gr.rf.stF (by decide) _
  have e1 : fld (setF w 5 1 (nI n)) 5 1 = nI n := fld_setF hS0 rfl rfl _
  have lp : ∀ (m k : Nat) (w2 : mW), cpT 1 (fun _ q => arr w 4 (60 * s + (i0 + q))) (fun _ => 6) [6] (setF w 5 1 (nI n)) w2 (fun _ => k) → k ≤ n → n < k + m → mJ mX0 (d + 3) kX6_load (fun r w' => r = none ∧ cdX w' n (tC w s i0 n) ∧ Gr [6] [(5, 1)] w w') 18 [.ref 5, .ref 1, .int (nI s), .int (nI i0), .int (nI n), .int (nI k)] [] w2 := by
    intro m
    induction m with
    | zero => intro k w2 _ h1 h2; omega
    | succ m ih =>
      intro k w2 hC hk1 hk2
      have hS := hC.1
      have tk : (nI k).toInt = (k : Int) := nI_toInt (by omega)
      have q1 : fld w2 5 1 = nI n := by rw [hC.2.1.2 5 1 (by decide)]; exact e1
      refine x_iload (pc := 18) dX6_load_18 rfl ?_
      refine x_aload_n (pc := 20) (i := 0) dX6_load_20 rfl rfl ?_
      refine x_getI (pc := 21) hS fX6_26 dX6_load_21 rfl rfl ?_
      rw [q1]
      refine x_icmp_ge (pc := 24) (tgt := 49) dX6_load_24 (by decide) (fun h24 => ?_) (fun h24 => ?_)
      · refine x_rv (pc := 49) dX6_load_49 rfl ?_
        have e := show k = n by (try simp only [b2_e0, b2_n0, Decidable.not_not] at *) <;> (try simp only [i_lt, i_le, i_eq, not_and, not_or, ne_eq, il_0, il_1, il_2, il_3, il_4, il_5, il_6, il_7, il_8, il_9, il_10, il_14, il_15, il_19, il_20, il_24, il_30, il_31, il_44, il_48, il_49, il_52, il_57, il_59, il_60, il_70, il_99, il_100, il_103, il_108, il_114, il_m1, il_m2, il_m3, il_m4, il_m9, il_m10, il_m100] at *) <;> omega
        subst e
        refine ⟨rfl, ⟨hS, q1, by omega, fun q hq => ?_, fun q hq => ?_⟩, g1.tr (hC.2.1.up (by decide) (by decide))⟩
        · rw [show arr w2 6 = _ from hC.2.2 0 (by decide)]; unfold tkI tC; rw [if_pos hq, if_pos hq]
        · unfold tC; rw [if_neg (by omega)]
      · have hkn : k < n := by (try simp only [b2_e0, b2_n0, Decidable.not_not] at *) <;> (try simp only [i_lt, i_le, i_eq, not_and, not_or, ne_eq, il_0, il_1, il_2, il_3, il_4, il_5, il_6, il_7, il_8, il_9, il_10, il_14, il_15, il_19, il_20, il_24, il_30, il_31, il_44, il_48, il_49, il_52, il_57, il_59, il_60, il_70, il_99, il_100, il_103, il_108, il_114, il_m1, il_m2, il_m3, il_m4, il_m9, il_m10, il_m100] at *) <;> omega
        refine x_aload_n (pc := 27) (i := 0) dX6_load_27 rfl rfl ?_
        refine x_getR (pc := 28) hS fX6_11 dX6_load_28 rfl rfl ?_
        refine x_iload (pc := 31) dX6_load_31 rfl ?_
        refine x_aload_n (pc := 33) (i := 1) dX6_load_33 rfl rfl ?_
        refine x_iload_n (pc := 34) (i := 2) dX6_load_34 rfl rfl ?_
        refine x_iload_n (pc := 35) (i := 3) dX6_load_35 rfl rfl ?_
        refine x_iload (pc := 36) dX6_load_36 rfl ?_
        refine x_iadd (pc := 38) dX6_load_38 ?_
        rw [nI_add]
        refine x_vs (pc := 39) (As := [_, _]) rfl hS lX6_30 dX6_load_39 rfl rfl (Nat.le_of_ble_eq_true rfl) (c_X5_valueAt (n := N) hS hs (by rw [hC.2.1.1 3 (by decide), arr_setF]; exact hsz) hN (by omega)) ?_
        rintro _ _ ⟨rfl, hq⟩
        obtain rfl := hq.symm
        refine x_pushI ?_
        rw [hC.2.1.1 4 (by decide), arr_setF]
        refine x_astN (pc := 42) hS dX6_load_42 rfl (by omega) (by decide) (fun hS => ?_)
        have hC := hC.st (x := arr w 4 (60 * s + (i0 + k))) 0 6 k (by decide) rfl rfl rfl rfl (by decide) (fun b hb hne => absurd (show b = 0 by omega) hne)
        refine x_iinc (pc := 43) (L' := [_, _, _, _, _, _]) dX6_load_43 (by decide) rfl (by first | exact nI_inc _ | rfl) rfl ?_
        refine x_goto (pc := 46) (tgt := 18) dX6_load_46 (by decide) ?_
        exact ih (k + 1) _ (hC.cg (fun a ha => by rw [show a = 0 by omega]; rfl)) (by omega) (by omega)
  have hS := hS0
  refine mC.of (L := [_, _, _, _, _, _]) okX6_load 1 rfl rfl ?_
  refine x_aload_n (pc := 0) (i := 0) dX6_load_0 rfl rfl ?_
  refine x_iconst (pc := 1) (v := 0) dX6_load_1 (by decide) ?_
  refine x_iload (pc := 2) dX6_load_2 rfl ?_
  refine x_bipush (pc := 4) (v := 60) dX6_load_4 (by decide) ?_
  refine x_mmin (pc := 6) lX6_17 dX6_load_6 (Nat.le_of_ble_eq_true rfl) ?_
  rw [if_neg (show ¬ (60 : Int32) < nI n from by rw [i_lt, il_60, tn]; omega)]
  refine x_mmax (pc := 9) lX6_23 dX6_load_9 (Nat.le_of_ble_eq_true rfl) ?_
  rw [show (if (0 : Int32) < nI n then nI n else 0) = nI n from by split; rfl; (rename_i z; rw [i_lt, il_0, tn] at z; rw [show n = 0 by omega]; rfl)]
  refine x_putI (pc := 12) hS fX6_26 dX6_load_12 rfl rfl rfl rfl (fun hS => ?_)
  refine x_iconst (pc := 15) (v := 0) dX6_load_15 (by decide) ?_
  refine x_istore (pc := 16) (L' := [_, _, _, _, _, _]) dX6_load_16 (by decide) rfl ?_
  exact lp (n + 1) 0 _ (cpT.zero hS1 (fun _ _ => rfl)) (by omega) (by omega)
def vX (cd : Nat → Int32) (p0 : Nat) : Nat → Nat → Int32
  | 0, j => kdE (cd (1 + 5 * j + 1))
  | 1, j => cd (1 + 5 * j + 2) - 48
  | 2, j => cd (1 + 5 * j + 3) - 48
  | 3, j => cd (1 + 5 * j + 4) - 48
  | 4, j => cd (p0 + 4 * j + 1) - 48
  | 5, j => cd (p0 + 4 * j + 2) - 48
  | 6, j => cd (p0 + 4 * j + 3) - 48
  | 7, _ => -9
  | _, _ => 0
abbrev mkD (a : Nat) : Nat := 8 + a
abbrev mkA : List Nat := [8, 9, 10, 11, 12, 13, 14, 15, 16]
theorem mkD_ne {D : Nat} (a : Nat) (h : 8 + a = D) : ∀ b, b < 9 → b ≠ a → mkD b ≠ D := by intro b _ h2; unfold mkD; omega
abbrev mkW (w : mW) (b c : Nat) : mW := setF (setF (setF w 7 0 (nI b)) 7 1 (nI c)) 7 2 0
theorem inc5 (k : Nat) : nI (1 + 5 * k) + Int32.ofInt 5 = nI (1 + 5 * (k + 1)) := by
  rw [show 1 + 5 * (k + 1) = 1 + 5 * k + 5 by omega]; exact nI_add (1 + 5 * k) 5
theorem inc4 (p k : Nat) : nI (p + 4 * k) + Int32.ofInt 4 = nI (p + 4 * (k + 1)) := by
  rw [show p + 4 * (k + 1) = p + 4 * k + 4 by omega]; exact nI_add (p + 4 * k) 4
set_option maxHeartbeats 2000000 in
theorem c_X6_makeAnew {d : Nat} {w0 : mW} {n nb nw : Nat} {cd : Nat → Int32} (hT : cdX w0 n cd) (h2 : fld w0 5 2 = nI nb) (h3 : fld w0 5 3 = nI nw) (hnb : nb ≤ 5) (hnw : nw ≤ 5) : mC (d + 2) kX6_makeAnew [.ref 5, .ref 7] w0 (fun r w' => r = none ∧ cpT 9 (vX cd (1 + 5 * nb)) mkD mkA (mkW w0 nb nw) w' (fun a => if a < 4 then nb else nw)) := by
  have hS0 := hT.1
  have hSb : Shape (mkW w0 nb nw) := ((hS0.stF rfl rfl _).stF rfl rfl _).stF rfl rfl _
  have hTm : cdX (mkW w0 nb nw) n cd := hT.gr (A := []) (F := [(7, 0), (7, 1), (7, 2)]) hSb (((Gr.rf.stF (by decide) _).stF (by decide) _).stF (by decide) _) (by decide) (by decide)
  have b52 : fld (mkW w0 nb nw) 5 2 = nI nb := by rw [fld_setF_a (by decide), fld_setF_a (by decide), fld_setF_a (by decide)]; exact h2
  have b53 : fld (mkW w0 nb nw) 5 3 = nI nw := by rw [fld_setF_a (by decide), fld_setF_a (by decide), fld_setF_a (by decide)]; exact h3
  have tnb : (nI nb).toInt = (nb : Int) := nI_toInt (by omega)
  have tnw : (nI nw).toInt = (nw : Int) := nI_toInt (by omega)
  have lp2 : ∀ (m k : Nat) (w : mW), cpT 9 (vX cd (1 + 5 * nb)) mkD mkA (mkW w0 nb nw) w (fun a => if a < 4 then nb else k) → k ≤ nw → nw < k + m → mJ mX0 (d + 2) kX6_makeAnew (fun r w' => r = none ∧ cpT 9 (vX cd (1 + 5 * nb)) mkD mkA (mkW w0 nb nw) w' (fun a => if a < 4 then nb else nw)) 96 [.ref 5, .ref 7, .int (nI (1 + 5 * nb + 4 * k)), .int (nI k)] [] w := by
    intro m
    induction m with
    | zero => intro k w _ h1 h2; omega
    | succ m ih =>
      intro k w hC hk1 hk2
      have hS := hC.1
      have hTt := hTm.gr hC.1 hC.2.1 (by decide) (by decide)
      have tk : (nI k).toInt = (k : Int) := nI_toInt (by omega)
      have q3 : fld w 5 3 = nI nw := by rw [hC.2.1.2 5 3 (by decide)]; exact b53
      refine x_iload_n (pc := 96) (i := 3) dX6_makeAnew_96 rfl rfl ?_
      refine x_aload_n (pc := 97) (i := 0) dX6_makeAnew_97 rfl rfl ?_
      refine x_getI (pc := 98) hS fX6_40 dX6_makeAnew_98 rfl rfl ?_
      rw [q3]
      refine x_icmp_ge (pc := 101) (tgt := 167) dX6_makeAnew_101 (by decide) (fun h101 => ?_) (fun h101 => ?_)
      · refine x_rv (pc := 167) dX6_makeAnew_167 rfl ?_
        exact ⟨rfl, by rw [show k = nw by (try simp only [b2_e0, b2_n0, Decidable.not_not] at *) <;> (try simp only [i_lt, i_le, i_eq, not_and, not_or, ne_eq, il_0, il_1, il_2, il_3, il_4, il_5, il_6, il_7, il_8, il_9, il_10, il_14, il_15, il_19, il_20, il_24, il_30, il_31, il_44, il_48, il_49, il_52, il_57, il_59, il_60, il_70, il_99, il_100, il_103, il_108, il_114, il_m1, il_m2, il_m3, il_m4, il_m9, il_m10, il_m100] at *) <;> omega] at hC; exact hC⟩
      · have hkn : k < nw := by (try simp only [b2_e0, b2_n0, Decidable.not_not] at *) <;> (try simp only [i_lt, i_le, i_eq, not_and, not_or, ne_eq, il_0, il_1, il_2, il_3, il_4, il_5, il_6, il_7, il_8, il_9, il_10, il_14, il_15, il_19, il_20, il_24, il_30, il_31, il_44, il_48, il_49, il_52, il_57, il_59, il_60, il_70, il_99, il_100, il_103, il_108, il_114, il_m1, il_m2, il_m3, il_m4, il_m9, il_m10, il_m100] at *) <;> omega
        refine x_aload_n (pc := 104) (i := 1) dX6_makeAnew_104 rfl rfl ?_
        refine x_getR (pc := 105) hS fX6_78 dX6_makeAnew_105 rfl rfl ?_
        refine x_iload_n (pc := 108) (i := 3) dX6_makeAnew_108 rfl rfl ?_
        refine x_aload_n (pc := 109) (i := 0) dX6_makeAnew_109 rfl rfl ?_
        refine x_iload_n (pc := 110) (i := 2) dX6_makeAnew_110 rfl rfl ?_
        refine x_iconst (pc := 111) (v := 1) dX6_makeAnew_111 (by decide) ?_
        refine x_iadd (pc := 112) dX6_makeAnew_112 ?_
        rw [show nI (1 + 5 * nb + 4 * k) + 1 = nI (1 + 5 * nb + 4 * k + 1) from nI_add _ 1]
        refine x_vs (pc := 113) (As := [_]) rfl hS lX6_69 dX6_makeAnew_113 rfl rfl (Nat.le_of_ble_eq_true rfl) (c_X6_digitAt hTt (by omega)) ?_
        rintro _ _ ⟨rfl, hq⟩
        obtain rfl := hq.symm
        refine x_pushI ?_
        refine x_astN (pc := 116) hS dX6_makeAnew_116 rfl (by omega) (by decide) (fun hS => ?_)
        have hC := hC.st (x := cd (1 + 5 * nb + 4 * k + 1) - 48) 4 12 k (by decide) rfl rfl rfl rfl (by decide) (mkD_ne 4 rfl)
        have hTt := hTm.gr hC.1 hC.2.1 (by decide) (by decide)
        refine x_aload_n (pc := 117) (i := 1) dX6_makeAnew_117 rfl rfl ?_
        refine x_getR (pc := 118) hS fX6_81 dX6_makeAnew_118 rfl rfl ?_
        refine x_iload_n (pc := 121) (i := 3) dX6_makeAnew_121 rfl rfl ?_
        refine x_aload_n (pc := 122) (i := 0) dX6_makeAnew_122 rfl rfl ?_
        refine x_iload_n (pc := 123) (i := 2) dX6_makeAnew_123 rfl rfl ?_
        refine x_iconst (pc := 124) (v := 2) dX6_makeAnew_124 (by decide) ?_
        refine x_iadd (pc := 125) dX6_makeAnew_125 ?_
        rw [show nI (1 + 5 * nb + 4 * k) + 2 = nI (1 + 5 * nb + 4 * k + 2) from nI_add _ 2]
        refine x_vs (pc := 126) (As := [_]) rfl hS lX6_69 dX6_makeAnew_126 rfl rfl (Nat.le_of_ble_eq_true rfl) (c_X6_digitAt hTt (by omega)) ?_
        rintro _ _ ⟨rfl, hq⟩
        obtain rfl := hq.symm
        refine x_pushI ?_
        refine x_astN (pc := 129) hS dX6_makeAnew_129 rfl (by omega) (by decide) (fun hS => ?_)
        have hC := hC.st (x := cd (1 + 5 * nb + 4 * k + 2) - 48) 5 13 k (by decide) rfl rfl rfl rfl (by decide) (mkD_ne 5 rfl)
        have hTt := hTm.gr hC.1 hC.2.1 (by decide) (by decide)
        refine x_aload_n (pc := 130) (i := 1) dX6_makeAnew_130 rfl rfl ?_
        refine x_getR (pc := 131) hS fX6_84 dX6_makeAnew_131 rfl rfl ?_
        refine x_iload_n (pc := 134) (i := 3) dX6_makeAnew_134 rfl rfl ?_
        refine x_aload_n (pc := 135) (i := 0) dX6_makeAnew_135 rfl rfl ?_
        refine x_iload_n (pc := 136) (i := 2) dX6_makeAnew_136 rfl rfl ?_
        refine x_iconst (pc := 137) (v := 3) dX6_makeAnew_137 (by decide) ?_
        refine x_iadd (pc := 138) dX6_makeAnew_138 ?_
        rw [show nI (1 + 5 * nb + 4 * k) + 3 = nI (1 + 5 * nb + 4 * k + 3) from nI_add _ 3]
        refine x_vs (pc := 139) (As := [_]) rfl hS lX6_69 dX6_makeAnew_139 rfl rfl (Nat.le_of_ble_eq_true rfl) (c_X6_digitAt hTt (by omega)) ?_
        rintro _ _ ⟨rfl, hq⟩
        obtain rfl := hq.symm
        refine x_pushI ?_
        refine x_astN (pc := 142) hS dX6_makeAnew_142 rfl (by omega) (by decide) (fun hS => ?_)
        have hC := hC.st (x := cd (1 + 5 * nb + 4 * k + 3) - 48) 6 14 k (by decide) rfl rfl rfl rfl (by decide) (mkD_ne 6 rfl)
        refine x_aload_n (pc := 143) (i := 1) dX6_makeAnew_143 rfl rfl ?_
        refine x_getR (pc := 144) hS fX6_87 dX6_makeAnew_144 rfl rfl ?_
        refine x_iload_n (pc := 147) (i := 3) dX6_makeAnew_147 rfl rfl ?_
        refine x_bipush (pc := 148) (v := (-9)) dX6_makeAnew_148 (by decide) ?_
        refine x_astN (pc := 150) hS dX6_makeAnew_150 rfl (by omega) (by decide) (fun hS => ?_)
        have hC := hC.st (x := -9) 7 15 k (by decide) rfl rfl rfl rfl (by decide) (mkD_ne 7 rfl)
        refine x_aload_n (pc := 151) (i := 1) dX6_makeAnew_151 rfl rfl ?_
        refine x_getR (pc := 152) hS fX6_90 dX6_makeAnew_152 rfl rfl ?_
        refine x_iload_n (pc := 155) (i := 3) dX6_makeAnew_155 rfl rfl ?_
        refine x_iconst (pc := 156) (v := 0) dX6_makeAnew_156 (by decide) ?_
        refine x_astN (pc := 157) hS dX6_makeAnew_157 rfl (by omega) (by decide) (fun hS => ?_)
        have hC := hC.st (x := 0) 8 16 k (by decide) rfl rfl rfl rfl (by decide) (mkD_ne 8 rfl)
        refine x_iinc (pc := 158) (L' := [_, _, _, _]) dX6_makeAnew_158 (by decide) rfl (inc4 _ _) rfl ?_
        refine x_iinc (pc := 161) (L' := [_, _, _, _]) dX6_makeAnew_161 (by decide) rfl (by first | exact nI_inc _ | rfl) rfl ?_
        refine x_goto (pc := 164) (tgt := 96) dX6_makeAnew_164 (by decide) ?_
        exact ih (k + 1) _ (hC.cg (fun a ha => by (repeat' split) <;> omega)) (by omega) (by omega)
  have lp1 : ∀ (m k : Nat) (w : mW), cpT 9 (vX cd (1 + 5 * nb)) mkD mkA (mkW w0 nb nw) w (fun a => if a < 4 then k else 0) → k ≤ nb → nb < k + m → mJ mX0 (d + 2) kX6_makeAnew (fun r w' => r = none ∧ cpT 9 (vX cd (1 + 5 * nb)) mkD mkA (mkW w0 nb nw) w' (fun a => if a < 4 then nb else nw)) 25 [.ref 5, .ref 7, .int (nI (1 + 5 * k)), .int (nI k)] [] w := by
    intro m
    induction m with
    | zero => intro k w _ h1 h2; omega
    | succ m ih =>
      intro k w hC hk1 hk2
      have hS := hC.1
      have hTt := hTm.gr hC.1 hC.2.1 (by decide) (by decide)
      have tk : (nI k).toInt = (k : Int) := nI_toInt (by omega)
      have q2 : fld w 5 2 = nI nb := by rw [hC.2.1.2 5 2 (by decide)]; exact b52
      refine x_iload_n (pc := 25) (i := 3) dX6_makeAnew_25 rfl rfl ?_
      refine x_aload_n (pc := 26) (i := 0) dX6_makeAnew_26 rfl rfl ?_
      refine x_getI (pc := 27) hS fX6_37 dX6_makeAnew_27 rfl rfl ?_
      rw [q2]
      refine x_icmp_ge (pc := 30) (tgt := 94) dX6_makeAnew_30 (by decide) (fun h30 => ?_) (fun h30 => ?_)
      · have hkn : k = nb := by (try simp only [b2_e0, b2_n0, Decidable.not_not] at *) <;> (try simp only [i_lt, i_le, i_eq, not_and, not_or, ne_eq, il_0, il_1, il_2, il_3, il_4, il_5, il_6, il_7, il_8, il_9, il_10, il_14, il_15, il_19, il_20, il_24, il_30, il_31, il_44, il_48, il_49, il_52, il_57, il_59, il_60, il_70, il_99, il_100, il_103, il_108, il_114, il_m1, il_m2, il_m3, il_m4, il_m9, il_m10, il_m100] at *) <;> omega
        subst hkn
        refine x_iconst (pc := 94) (v := 0) dX6_makeAnew_94 (by decide) ?_
        refine x_istore_n (pc := 95) (i := 3) (L' := [_, _, _, _]) dX6_makeAnew_95 rfl (by decide) rfl ?_
        exact lp2 (nw + 1) 0 w (hC.cg (fun a ha => by (repeat' split) <;> omega)) (by omega) (by omega)
      · have hkn : k < nb := by (try simp only [b2_e0, b2_n0, Decidable.not_not] at *) <;> (try simp only [i_lt, i_le, i_eq, not_and, not_or, ne_eq, il_0, il_1, il_2, il_3, il_4, il_5, il_6, il_7, il_8, il_9, il_10, il_14, il_15, il_19, il_20, il_24, il_30, il_31, il_44, il_48, il_49, il_52, il_57, il_59, il_60, il_70, il_99, il_100, il_103, il_108, il_114, il_m1, il_m2, il_m3, il_m4, il_m9, il_m10, il_m100] at *) <;> omega
        refine x_aload_n (pc := 33) (i := 1) dX6_makeAnew_33 rfl rfl ?_
        refine x_getR (pc := 34) hS fX6_63 dX6_makeAnew_34 rfl rfl ?_
        refine x_iload_n (pc := 37) (i := 3) dX6_makeAnew_37 rfl rfl ?_
        refine x_aload_n (pc := 38) (i := 0) dX6_makeAnew_38 rfl rfl ?_
        refine x_iload_n (pc := 39) (i := 2) dX6_makeAnew_39 rfl rfl ?_
        refine x_iconst (pc := 40) (v := 1) dX6_makeAnew_40 (by decide) ?_
        refine x_iadd (pc := 41) dX6_makeAnew_41 ?_
        rw [show nI (1 + 5 * k) + 1 = nI (1 + 5 * k + 1) from nI_add _ 1]
        refine x_vs (pc := 42) (As := [_]) rfl hS lX6_49 dX6_makeAnew_42 rfl rfl (Nat.le_of_ble_eq_true rfl) (c_X6_kindAt hTt (by omega)) ?_
        rintro _ _ ⟨rfl, hq⟩
        obtain rfl := hq.symm
        refine x_pushI ?_
        refine x_astN (pc := 45) hS dX6_makeAnew_45 rfl (by omega) (by decide) (fun hS => ?_)
        have hC := hC.st (x := kdE (cd (1 + 5 * k + 1))) 0 8 k (by decide) rfl rfl rfl rfl (by decide) (mkD_ne 0 rfl)
        have hTt := hTm.gr hC.1 hC.2.1 (by decide) (by decide)
        refine x_aload_n (pc := 46) (i := 1) dX6_makeAnew_46 rfl rfl ?_
        refine x_getR (pc := 47) hS fX6_66 dX6_makeAnew_47 rfl rfl ?_
        refine x_iload_n (pc := 50) (i := 3) dX6_makeAnew_50 rfl rfl ?_
        refine x_aload_n (pc := 51) (i := 0) dX6_makeAnew_51 rfl rfl ?_
        refine x_iload_n (pc := 52) (i := 2) dX6_makeAnew_52 rfl rfl ?_
        refine x_iconst (pc := 53) (v := 2) dX6_makeAnew_53 (by decide) ?_
        refine x_iadd (pc := 54) dX6_makeAnew_54 ?_
        rw [show nI (1 + 5 * k) + 2 = nI (1 + 5 * k + 2) from nI_add _ 2]
        refine x_vs (pc := 55) (As := [_]) rfl hS lX6_69 dX6_makeAnew_55 rfl rfl (Nat.le_of_ble_eq_true rfl) (c_X6_digitAt hTt (by omega)) ?_
        rintro _ _ ⟨rfl, hq⟩
        obtain rfl := hq.symm
        refine x_pushI ?_
        refine x_astN (pc := 58) hS dX6_makeAnew_58 rfl (by omega) (by decide) (fun hS => ?_)
        have hC := hC.st (x := cd (1 + 5 * k + 2) - 48) 1 9 k (by decide) rfl rfl rfl rfl (by decide) (mkD_ne 1 rfl)
        have hTt := hTm.gr hC.1 hC.2.1 (by decide) (by decide)
        refine x_aload_n (pc := 59) (i := 1) dX6_makeAnew_59 rfl rfl ?_
        refine x_getR (pc := 60) hS fX6_72 dX6_makeAnew_60 rfl rfl ?_
        refine x_iload_n (pc := 63) (i := 3) dX6_makeAnew_63 rfl rfl ?_
        refine x_aload_n (pc := 64) (i := 0) dX6_makeAnew_64 rfl rfl ?_
        refine x_iload_n (pc := 65) (i := 2) dX6_makeAnew_65 rfl rfl ?_
        refine x_iconst (pc := 66) (v := 3) dX6_makeAnew_66 (by decide) ?_
        refine x_iadd (pc := 67) dX6_makeAnew_67 ?_
        rw [show nI (1 + 5 * k) + 3 = nI (1 + 5 * k + 3) from nI_add _ 3]
        refine x_vs (pc := 68) (As := [_]) rfl hS lX6_69 dX6_makeAnew_68 rfl rfl (Nat.le_of_ble_eq_true rfl) (c_X6_digitAt hTt (by omega)) ?_
        rintro _ _ ⟨rfl, hq⟩
        obtain rfl := hq.symm
        refine x_pushI ?_
        refine x_astN (pc := 71) hS dX6_makeAnew_71 rfl (by omega) (by decide) (fun hS => ?_)
        have hC := hC.st (x := cd (1 + 5 * k + 3) - 48) 2 10 k (by decide) rfl rfl rfl rfl (by decide) (mkD_ne 2 rfl)
        have hTt := hTm.gr hC.1 hC.2.1 (by decide) (by decide)
        refine x_aload_n (pc := 72) (i := 1) dX6_makeAnew_72 rfl rfl ?_
        refine x_getR (pc := 73) hS fX6_75 dX6_makeAnew_73 rfl rfl ?_
        refine x_iload_n (pc := 76) (i := 3) dX6_makeAnew_76 rfl rfl ?_
        refine x_aload_n (pc := 77) (i := 0) dX6_makeAnew_77 rfl rfl ?_
        refine x_iload_n (pc := 78) (i := 2) dX6_makeAnew_78 rfl rfl ?_
        refine x_iconst (pc := 79) (v := 4) dX6_makeAnew_79 (by decide) ?_
        refine x_iadd (pc := 80) dX6_makeAnew_80 ?_
        rw [show nI (1 + 5 * k) + 4 = nI (1 + 5 * k + 4) from nI_add _ 4]
        refine x_vs (pc := 81) (As := [_]) rfl hS lX6_69 dX6_makeAnew_81 rfl rfl (Nat.le_of_ble_eq_true rfl) (c_X6_digitAt hTt (by omega)) ?_
        rintro _ _ ⟨rfl, hq⟩
        obtain rfl := hq.symm
        refine x_pushI ?_
        refine x_astN (pc := 84) hS dX6_makeAnew_84 rfl (by omega) (by decide) (fun hS => ?_)
        have hC := hC.st (x := cd (1 + 5 * k + 4) - 48) 3 11 k (by decide) rfl rfl rfl rfl (by decide) (mkD_ne 3 rfl)
        refine x_iinc (pc := 85) (L' := [_, _, _, _]) dX6_makeAnew_85 (by decide) rfl (inc5 _) rfl ?_
        refine x_iinc (pc := 88) (L' := [_, _, _, _]) dX6_makeAnew_88 (by decide) rfl (by first | exact nI_inc _ | rfl) rfl ?_
        refine x_goto (pc := 91) (tgt := 25) dX6_makeAnew_91 (by decide) ?_
        exact ih (k + 1) _ (hC.cg (fun a ha => by (repeat' split) <;> omega)) (by omega) (by omega)
  have hS := hS0
  refine mC.of (L := [_, _, _, _]) okX6_makeAnew 2 rfl rfl ?_
  refine x_aload_n (pc := 0) (i := 1) dX6_makeAnew_0 rfl rfl ?_
  refine x_aload_n (pc := 1) (i := 0) dX6_makeAnew_1 rfl rfl ?_
  refine x_getI (pc := 2) hS fX6_37 dX6_makeAnew_2 rfl rfl ?_
  rw [h2]
  refine x_putI (pc := 5) hS fX6_56 dX6_makeAnew_5 rfl rfl rfl rfl (fun hS => ?_)
  refine x_aload_n (pc := 8) (i := 1) dX6_makeAnew_8 rfl rfl ?_
  refine x_aload_n (pc := 9) (i := 0) dX6_makeAnew_9 rfl rfl ?_
  refine x_getI (pc := 10) hS fX6_40 dX6_makeAnew_10 rfl rfl ?_
  rw [fld_setF_a (by decide), h3]
  refine x_putI (pc := 13) hS fX6_59 dX6_makeAnew_13 rfl rfl rfl rfl (fun hS => ?_)
  refine x_aload_n (pc := 16) (i := 1) dX6_makeAnew_16 rfl rfl ?_
  refine x_iconst (pc := 17) (v := 0) dX6_makeAnew_17 (by decide) ?_
  refine x_putI (pc := 18) hS fX6_60 dX6_makeAnew_18 rfl rfl rfl rfl (fun hS => ?_)
  refine x_iconst (pc := 21) (v := 1) dX6_makeAnew_21 (by decide) ?_
  refine x_istore_n (pc := 22) (i := 2) (L' := [_, _, _, _]) dX6_makeAnew_22 rfl (by decide) rfl ?_
  refine x_iconst (pc := 23) (v := 0) dX6_makeAnew_23 (by decide) ?_
  refine x_istore_n (pc := 24) (i := 3) (L' := [_, _, _, _]) dX6_makeAnew_24 rfl (by decide) rfl ?_
  exact lp1 (nb + 1) 0 _ (cpT.zero hSb (fun a _ => by split <;> rfl)) (by omega) (by omega)
-- what the text tells, where it is taken
theorem fW_ok {cd : Nat → Int32} {n p0 : Nat} : ∀ {m c : Nat}, c + m = 5 → (∀ j, j < c → stopW cd (p0 + 4 * j) = p0 + 4 * j + 4) → (fW cd n p0 m c).1 = none → c ≤ (fW cd n p0 m c).2 ∧ (fW cd n p0 m c).2 ≤ 5 ∧ (1 ≤ c + m → 1 ≤ (fW cd n p0 m c).2) ∧ ∀ j, j < (fW cd n p0 m c).2 → stopW cd (p0 + 4 * j) = p0 + 4 * j + 4
  | 0, c, hc, hj, _ => by
    refine ⟨Nat.le_refl _, by show c ≤ 5; omega, fun h => by show 1 ≤ c; omega, hj⟩
  | m + 1, c, hc, hj, h => by
    simp only [fW] at h ⊢
    by_cases q : c = 0 ∨ cd (p0 + 4 * c) = 44
    · rw [if_pos q] at h ⊢
      by_cases q2 : stopW cd (p0 + 4 * c) = p0 + 4 * c + 4
      · rw [if_pos q2] at h ⊢
        obtain ⟨i1, i2, i3, i4⟩ := fW_ok (m := m) (c := c + 1) (by omega) (fun j hj' => by
          by_cases e : j = c
          · rw [e]; exact q2
          · exact hj j (by omega)) h
        exact ⟨by omega, i2, fun _ => by omega, i4⟩
      · rw [if_neg q2] at h; exact absurd h (by simp)
    · rw [if_neg q] at h ⊢
      have : ¬ c = 0 := fun z => q (Or.inl z)
      exact ⟨Nat.le_refl _, by show c ≤ 5; omega, fun _ => by show 1 ≤ c; omega, hj⟩
theorem fB_ok {cd : Nat → Int32} {n : Nat} : ∀ {m b : Nat}, b + m = 5 → (∀ j, j < b → stopB cd (1 + 5 * j) = 1 + 5 * j + 5) → (fB cd n m b).1 = none → 1 ≤ (fB cd n m b).2.1 ∧ (fB cd n m b).2.1 ≤ 5 ∧ 1 ≤ (fB cd n m b).2.2 ∧ (fB cd n m b).2.2 ≤ 5 ∧ (∀ j, j < (fB cd n m b).2.1 → stopB cd (1 + 5 * j) = 1 + 5 * j + 5) ∧ ∀ j, j < (fB cd n m b).2.2 → stopW cd (1 + 5 * (fB cd n m b).2.1 + 4 * j) = 1 + 5 * (fB cd n m b).2.1 + 4 * j + 4
  | 0, b, hb, hj, h => by
    simp only [fB] at h ⊢
    obtain ⟨i1, i2, i3, i4⟩ := fW_ok (m := 5) (c := 0) (p0 := 1 + 5 * b) (n := n) rfl (fun j hj => absurd hj (Nat.not_lt_zero _)) h
    exact ⟨by omega, by omega, i3 (by omega), i2, hj, i4⟩
  | m + 1, b, hb, hj, h => by
    simp only [fB] at h ⊢
    by_cases q : b = 0 ∨ cd (1 + 5 * b) = 59
    · rw [if_pos q] at h ⊢
      by_cases q2 : stopB cd (1 + 5 * b) = 1 + 5 * b + 5
      · rw [if_pos q2] at h ⊢
        exact fB_ok (m := m) (b := b + 1) (by omega) (fun j hj' => by
          by_cases e : j = b
          · rw [e]; exact q2
          · exact hj j (by omega)) h
      · rw [if_neg q2] at h; exact absurd h (by simp)
    · rw [if_neg q] at h ⊢
      have : ¬ b = 0 := fun z => q (Or.inl z)
      obtain ⟨i1, i2, i3, i4⟩ := fW_ok (m := 5) (c := 0) (p0 := 1 + 5 * b) (n := n) rfl (fun j hj => absurd hj (Nat.not_lt_zero _)) h
      exact ⟨by show 1 ≤ b; omega, by show b ≤ 5; omega, i3 (by omega), i2, hj, i4⟩
theorem fT_ok {cd : Nat → Int32} {n : Nat} (h : (fT cd n).1 = none) : 1 ≤ (fT cd n).2.1 ∧ (fT cd n).2.1 ≤ 5 ∧ 1 ≤ (fT cd n).2.2 ∧ (fT cd n).2.2 ≤ 5 ∧ (∀ j, j < (fT cd n).2.1 → stopB cd (1 + 5 * j) = 1 + 5 * j + 5) ∧ ∀ j, j < (fT cd n).2.2 → stopW cd (1 + 5 * (fT cd n).2.1 + 4 * j) = 1 + 5 * (fT cd n).2.1 + 4 * j + 4 := by
  unfold fT at h ⊢
  by_cases q : cd 0 = 100
  · rw [if_pos q] at h ⊢
    exact fB_ok rfl (fun j hj => absurd hj (Nat.not_lt_zero _)) h
  · rw [if_neg q] at h; exact absurd h (by simp)
theorem fW_le {cd : Nat → Int32} {n p0 : Nat} : ∀ {m c t : Nat}, (fW cd n p0 m c).1 = some t → t ≤ p0 + 4 * (c + m)
  | 0, c, t, h => by
    simp only [fW] at h
    split at h
    · cases h; omega
    · exact absurd h (by simp)
  | m + 1, c, t, h => by
    simp only [fW] at h
    have hl := stopW_le (cd := cd) (p := p0 + 4 * c)
    split at h
    · split at h
      · have := fW_le h; omega
      · cases h; omega
    · split at h
      · cases h; omega
      · exact absurd h (by simp)
theorem fB_le {cd : Nat → Int32} {n : Nat} : ∀ {m b t : Nat}, (fB cd n m b).1 = some t → t ≤ 1 + 5 * (b + m) + 20
  | 0, b, t, h => by
    simp only [fB] at h
    have := fW_le h; omega
  | m + 1, b, t, h => by
    simp only [fB] at h
    have hl := stopB_le (cd := cd) (p := 1 + 5 * b)
    split at h
    · split at h
      · have := fB_le h; omega
      · cases h; omega
    · have := fW_le h; omega
theorem fT_le {cd : Nat → Int32} {n t : Nat} (h : (fT cd n).1 = some t) : t ≤ 100 := by
  unfold fT at h
  split at h
  · have := fB_le h; omega
  · cases h; omega

