-- down: the reference takes it; its call
theorem cpT.stF {m : Nat} {X : Nat → Nat → Int32} {dst : Nat → Nat} {A : List Nat} {w0 w : mW} {c : Nat → Nat} (h : cpT m X dst A w0 w c) (hS0 : Shape w0) {a ci k : Nat} {fs : List (Option Nat)} (hs : mShp[a]? = some (.inr (ci, fs))) (hk : fs[k]? = some none) (x : Int32) : cpT m X dst A (setF w0 a k x) (setF w a k x) c := by
  refine ⟨h.1.stF hs hk x, ⟨fun b hb => by rw [arr_setF, arr_setF]; exact h.2.1.1 b hb, fun b j hj => ?_⟩, fun b hb => by rw [arr_setF, arr_setF]; exact h.2.2 b hb⟩
  by_cases e : b = a
  · subst e
    by_cases e2 : j = k
    · subst e2; rw [fld_setF h.1 hs hk, fld_setF hS0 hs hk]
    · rw [fld_setF_k e2, fld_setF_k e2]; exact h.2.1.2 _ _ hj
  · rw [fld_setF_a e, fld_setF_a e]; exact h.2.1.2 _ _ hj
abbrev tdD (a : Nat) : Nat := 48 + a
abbrev tdA : List Nat := [48, 49, 50, 51, 52, 53, 54, 55, 56]
theorem tdD_ne {D : Nat} (a : Nat) (h : 48 + a = D) : ∀ b, b < 9 → b ≠ a → tdD b ≠ D := by intro b _ h2; unfold tdD; omega
abbrev tdF : List (Nat × Nat) := [(44, 5), (44, 6), (44, 7), (44, 32)]
def tdP (cd : Nat → Int32) (nb nw : Nat) (w w' : mW) : Prop := Shape w' ∧ Gr tdA tdF w w' ∧ fld w' 44 5 = nI nb ∧ fld w' 44 6 = nI nw ∧ fld w' 44 7 = 0 ∧ fld w' 44 32 = 0 ∧ ∀ a, a < 9 → arr w' (48 + a) = tkI (if a < 4 then nb else nw) (vX cd (1 + 5 * nb) a) (arr w (48 + a))
set_option maxHeartbeats 2000000 in
theorem c_X8_takeDown {d : Nat} {w0 w : mW} {F p nb nw : Nat} {cd : Nat → Int32} (h : dS w0 F cd p nb nw w) (hnb : nb ≤ 5) (hnw : nw ≤ 5) : mC d kX8_takeDown [.ref 44] w (fun r w' => r = none ∧ tdP cd nb nw w w') := by
  obtain ⟨hS0, -, -, h4, h5, h6, h7⟩ := h
  have tnb : (nI nb).toInt = (nb : Int) := nI_toInt (by omega)
  have tnw : (nI nw).toInt = (nw : Int) := nI_toInt (by omega)
  have hS1 : Shape (setF w 44 5 (nI nb)) := hS0.stF rfl rfl _
  have hS2 : Shape (setF (setF w 44 5 (nI nb)) 44 6 (nI nw)) := hS1.stF rfl rfl _
  have a5 : fld (setF w 44 5 (nI nb)) 44 5 = nI nb := fld_setF hS0 rfl rfl _
  have c5 : fld (setF (setF w 44 5 (nI nb)) 44 6 (nI nw)) 44 5 = nI nb := by rw [fld_setF_k (by decide)]; exact a5
  have c6 : fld (setF (setF w 44 5 (nI nb)) 44 6 (nI nw)) 44 6 = nI nw := fld_setF hS1 rfl rfl _
  have lp2 : ∀ (m k : Nat) (w1 : mW), cpT 9 (vX cd (1 + 5 * nb)) tdD tdA (setF (setF w 44 5 (nI nb)) 44 6 (nI nw)) w1 (fun a => if a < 4 then nb else k) → k ≤ nw → nw < k + m → mJ mX0 d kX8_takeDown (fun r w' => r = none ∧ tdP cd nb nw w w') 96 [.ref 44, .int (nI k)] [] w1 := by
    intro m
    induction m with
    | zero => intro k w1 _ h1 h2; omega
    | succ m ih =>
      intro k w1 hC hk1 hk2
      have hS := hC.1
      have tk : (nI k).toInt = (k : Int) := nI_toInt (by omega)
      have j0 : (3 : Int32) * nI k = nI (3 * k) := pk_mul 3 k
      have j1 : nI (3 * k) + 1 = nI (3 * k + 1) := nI_1 _
      have j2 : nI (3 * k) + 2 = nI (3 * k + 2) := nI_add _ 2
      have q6 : fld w1 44 6 = nI nw := by rw [hC.2.1.2 44 6 (by decide)]; exact c6
      refine x_iload_n (pc := 96) (i := 1) dX8_takeDown_96 rfl rfl ?_
      refine x_aload_n (pc := 97) (i := 0) dX8_takeDown_97 rfl rfl ?_
      refine x_getI (pc := 98) hS fX8_95 dX8_takeDown_98 rfl rfl ?_
      rw [q6]
      refine x_icmp_ge (pc := 101) (tgt := 171) dX8_takeDown_101 (by decide) (fun h101 => ?_) (fun h101 => ?_)
      · have hkn : k = nw := (by rw [i_le, tnw, tk] at h101; omega)
        subst hkn
        refine x_aload_n (pc := 171) (i := 0) dX8_takeDown_171 rfl rfl ?_
        refine x_iconst (pc := 172) (v := 0) dX8_takeDown_172 (by decide) ?_
        refine x_putI (pc := 173) hS fX8_128 dX8_takeDown_173 rfl rfl rfl rfl (fun hS => ?_)
        refine x_aload_n (pc := 176) (i := 0) dX8_takeDown_176 rfl rfl ?_
        refine x_iconst (pc := 177) (v := 0) dX8_takeDown_177 (by decide) ?_
        refine x_putI (pc := 178) hS fX8_131 dX8_takeDown_178 rfl rfl rfl rfl (fun hS => ?_)
        refine x_rv (pc := 181) dX8_takeDown_181 rfl ?_
        refine ⟨rfl, hS, (((((Gr.rf.stF (by decide) _).stF (by decide) _).tr (hC.2.1.up (by decide) (by decide))).stF (by decide) _).stF (by decide) _), ?_, ?_, ?_, ?_, fun a ha => ?_⟩
        · rw [fld_setF_k (by decide), fld_setF_k (by decide), hC.2.1.2 44 5 (by decide)]; exact c5
        · rw [fld_setF_k (by decide), fld_setF_k (by decide)]; exact q6
        · rw [fld_setF_k (by decide), fld_setF hC.1 rfl rfl]
        · rw [fld_setF (hC.1.stF rfl rfl _) rfl rfl]
        · have z := hC.2.2 a ha; rw [arr_setF, arr_setF] at z ⊢; exact z
      · have hkn : k < nw := by rw [i_le, tnw, tk] at h101; omega
        refine x_aload_n (pc := 104) (i := 0) dX8_takeDown_104 rfl rfl ?_
        refine x_getR (pc := 105) hS fX8_31 dX8_takeDown_105 rfl rfl ?_
        refine x_iload_n (pc := 108) (i := 1) dX8_takeDown_108 rfl rfl ?_
        refine x_aload_n (pc := 109) (i := 0) dX8_takeDown_109 rfl rfl ?_
        refine x_getR (pc := 110) hS fX8_49 dX8_takeDown_110 rfl rfl ?_
        refine x_iconst (pc := 113) (v := 3) dX8_takeDown_113 (by decide) ?_
        refine x_iload_n (pc := 114) (i := 1) dX8_takeDown_114 rfl rfl ?_
        refine x_imul (pc := 115) dX8_takeDown_115 ?_
        rw [j0]
        refine x_aldN (pc := 116) hS dX8_takeDown_116 rfl (by omega) (by decide) ?_
        rw [hC.2.1.1 58 (by decide), arr_setF, arr_setF, show arr w 58 (3 * k) = vX cd (1 + 5 * nb) 4 k from h7 k hkn 0 (by decide)]
        refine x_astN (pc := 117) hS dX8_takeDown_117 rfl (by omega) (by decide) (fun hS => ?_)
        have hC := hC.st (x := vX cd (1 + 5 * nb) 4 k) 4 52 k (by decide) rfl rfl rfl rfl (by decide) (tdD_ne 4 rfl)
        refine x_aload_n (pc := 118) (i := 0) dX8_takeDown_118 rfl rfl ?_
        refine x_getR (pc := 119) hS fX8_34 dX8_takeDown_119 rfl rfl ?_
        refine x_iload_n (pc := 122) (i := 1) dX8_takeDown_122 rfl rfl ?_
        refine x_aload_n (pc := 123) (i := 0) dX8_takeDown_123 rfl rfl ?_
        refine x_getR (pc := 124) hS fX8_49 dX8_takeDown_124 rfl rfl ?_
        refine x_iconst (pc := 127) (v := 3) dX8_takeDown_127 (by decide) ?_
        refine x_iload_n (pc := 128) (i := 1) dX8_takeDown_128 rfl rfl ?_
        refine x_imul (pc := 129) dX8_takeDown_129 ?_
        refine x_iconst (pc := 130) (v := 1) dX8_takeDown_130 (by decide) ?_
        rw [j0]
        refine x_iadd (pc := 131) dX8_takeDown_131 ?_
        rw [j1]
        refine x_aldN (pc := 132) hS dX8_takeDown_132 rfl (by omega) (by decide) ?_
        rw [hC.2.1.1 58 (by decide), arr_setF, arr_setF, show arr w 58 (3 * k + 1) = vX cd (1 + 5 * nb) 5 k from h7 k hkn 1 (by decide)]
        refine x_astN (pc := 133) hS dX8_takeDown_133 rfl (by omega) (by decide) (fun hS => ?_)
        have hC := hC.st (x := vX cd (1 + 5 * nb) 5 k) 5 53 k (by decide) rfl rfl rfl rfl (by decide) (tdD_ne 5 rfl)
        refine x_aload_n (pc := 134) (i := 0) dX8_takeDown_134 rfl rfl ?_
        refine x_getR (pc := 135) hS fX8_37 dX8_takeDown_135 rfl rfl ?_
        refine x_iload_n (pc := 138) (i := 1) dX8_takeDown_138 rfl rfl ?_
        refine x_aload_n (pc := 139) (i := 0) dX8_takeDown_139 rfl rfl ?_
        refine x_getR (pc := 140) hS fX8_49 dX8_takeDown_140 rfl rfl ?_
        refine x_iconst (pc := 143) (v := 3) dX8_takeDown_143 (by decide) ?_
        refine x_iload_n (pc := 144) (i := 1) dX8_takeDown_144 rfl rfl ?_
        refine x_imul (pc := 145) dX8_takeDown_145 ?_
        refine x_iconst (pc := 146) (v := 2) dX8_takeDown_146 (by decide) ?_
        rw [j0]
        refine x_iadd (pc := 147) dX8_takeDown_147 ?_
        rw [j2]
        refine x_aldN (pc := 148) hS dX8_takeDown_148 rfl (by omega) (by decide) ?_
        rw [hC.2.1.1 58 (by decide), arr_setF, arr_setF, show arr w 58 (3 * k + 2) = vX cd (1 + 5 * nb) 6 k from h7 k hkn 2 (by decide)]
        refine x_astN (pc := 149) hS dX8_takeDown_149 rfl (by omega) (by decide) (fun hS => ?_)
        have hC := hC.st (x := vX cd (1 + 5 * nb) 6 k) 6 54 k (by decide) rfl rfl rfl rfl (by decide) (tdD_ne 6 rfl)
        refine x_aload_n (pc := 150) (i := 0) dX8_takeDown_150 rfl rfl ?_
        refine x_getR (pc := 151) hS fX8_40 dX8_takeDown_151 rfl rfl ?_
        refine x_iload_n (pc := 154) (i := 1) dX8_takeDown_154 rfl rfl ?_
        refine x_bipush (pc := 155) (v := (-9)) dX8_takeDown_155 (by decide) ?_
        refine x_astN (pc := 157) hS dX8_takeDown_157 rfl (by omega) (by decide) (fun hS => ?_)
        have hC := hC.st (x := -9) 7 55 k (by decide) rfl rfl rfl rfl (by decide) (tdD_ne 7 rfl)
        refine x_aload_n (pc := 158) (i := 0) dX8_takeDown_158 rfl rfl ?_
        refine x_getR (pc := 159) hS fX8_43 dX8_takeDown_159 rfl rfl ?_
        refine x_iload_n (pc := 162) (i := 1) dX8_takeDown_162 rfl rfl ?_
        refine x_iconst (pc := 163) (v := 0) dX8_takeDown_163 (by decide) ?_
        refine x_astN (pc := 164) hS dX8_takeDown_164 rfl (by omega) (by decide) (fun hS => ?_)
        have hC := hC.st (x := 0) 8 56 k (by decide) rfl rfl rfl rfl (by decide) (tdD_ne 8 rfl)
        refine x_iinc (pc := 165) (L' := [_, _]) dX8_takeDown_165 (by decide) rfl (by first | exact nI_inc _ | rfl) rfl ?_
        refine x_goto (pc := 168) (tgt := 96) dX8_takeDown_168 (by decide) ?_
        exact ih (k + 1) _ (hC.cg (fun a ha => by (repeat' split) <;> omega)) (by omega) (by omega)
  have lp1 : ∀ (m k : Nat) (w1 : mW), cpT 9 (vX cd (1 + 5 * nb)) tdD tdA (setF w 44 5 (nI nb)) w1 (fun a => if a < 4 then k else 0) → k ≤ nb → nb < k + m → mJ mX0 d kX8_takeDown (fun r w' => r = none ∧ tdP cd nb nw w w') 10 [.ref 44, .int (nI k)] [] w1 := by
    intro m
    induction m with
    | zero => intro k w1 _ h1 h2; omega
    | succ m ih =>
      intro k w1 hC hk1 hk2
      have hS := hC.1
      have tk : (nI k).toInt = (k : Int) := nI_toInt (by omega)
      have j0 : (4 : Int32) * nI k = nI (4 * k) := pk_mul 4 k
      have j1 : nI (4 * k) + 1 = nI (4 * k + 1) := nI_1 _
      have j2 : nI (4 * k) + 2 = nI (4 * k + 2) := nI_add _ 2
      have j3 : nI (4 * k) + 3 = nI (4 * k + 3) := nI_add _ 3
      have q5 : fld w1 44 5 = nI nb := by rw [hC.2.1.2 44 5 (by decide)]; exact a5
      refine x_iload_n (pc := 10) (i := 1) dX8_takeDown_10 rfl rfl ?_
      refine x_aload_n (pc := 11) (i := 0) dX8_takeDown_11 rfl rfl ?_
      refine x_getI (pc := 12) hS fX8_92 dX8_takeDown_12 rfl rfl ?_
      rw [q5]
      refine x_icmp_ge (pc := 15) (tgt := 86) dX8_takeDown_15 (by decide) (fun h15 => ?_) (fun h15 => ?_)
      · have hkn : k = nb := (by rw [i_le, tnb, tk] at h15; omega)
        subst hkn
        refine x_aload_n (pc := 86) (i := 0) dX8_takeDown_86 rfl rfl ?_
        refine x_aload_n (pc := 87) (i := 0) dX8_takeDown_87 rfl rfl ?_
        refine x_getI (pc := 88) hS fX8_125 dX8_takeDown_88 rfl rfl ?_
        rw [hC.2.1.2 44 19 (by decide), fld_setF_k (by decide), h5]
        refine x_putI (pc := 91) hS fX8_95 dX8_takeDown_91 rfl rfl rfl rfl (fun hS => ?_)
        refine x_iconst (pc := 94) (v := 0) dX8_takeDown_94 (by decide) ?_
        refine x_istore_n (pc := 95) (i := 1) (L' := [_, _]) dX8_takeDown_95 rfl (by decide) rfl ?_
        exact lp2 (nw + 1) 0 _ ((hC.stF hS1 rfl rfl _).cg (fun a ha => by (repeat' split) <;> omega)) (by omega) (by omega)
      · have hkn : k < nb := by rw [i_le, tnb, tk] at h15; omega
        refine x_aload_n (pc := 18) (i := 0) dX8_takeDown_18 rfl rfl ?_
        refine x_getR (pc := 19) hS fX8_19 dX8_takeDown_19 rfl rfl ?_
        refine x_iload_n (pc := 22) (i := 1) dX8_takeDown_22 rfl rfl ?_
        refine x_aload_n (pc := 23) (i := 0) dX8_takeDown_23 rfl rfl ?_
        refine x_getR (pc := 24) hS fX8_46 dX8_takeDown_24 rfl rfl ?_
        refine x_iconst (pc := 27) (v := 4) dX8_takeDown_27 (by decide) ?_
        refine x_iload_n (pc := 28) (i := 1) dX8_takeDown_28 rfl rfl ?_
        refine x_imul (pc := 29) dX8_takeDown_29 ?_
        rw [j0]
        refine x_aldN (pc := 30) hS dX8_takeDown_30 rfl (by omega) (by decide) ?_
        rw [hC.2.1.1 57 (by decide), arr_setF, show arr w 57 (4 * k) = vX cd (1 + 5 * nb) 0 k from h6 k hkn 0 (by decide)]
        refine x_astN (pc := 31) hS dX8_takeDown_31 rfl (by omega) (by decide) (fun hS => ?_)
        have hC := hC.st (x := vX cd (1 + 5 * nb) 0 k) 0 48 k (by decide) rfl rfl rfl rfl (by decide) (tdD_ne 0 rfl)
        refine x_aload_n (pc := 32) (i := 0) dX8_takeDown_32 rfl rfl ?_
        refine x_getR (pc := 33) hS fX8_22 dX8_takeDown_33 rfl rfl ?_
        refine x_iload_n (pc := 36) (i := 1) dX8_takeDown_36 rfl rfl ?_
        refine x_aload_n (pc := 37) (i := 0) dX8_takeDown_37 rfl rfl ?_
        refine x_getR (pc := 38) hS fX8_46 dX8_takeDown_38 rfl rfl ?_
        refine x_iconst (pc := 41) (v := 4) dX8_takeDown_41 (by decide) ?_
        refine x_iload_n (pc := 42) (i := 1) dX8_takeDown_42 rfl rfl ?_
        refine x_imul (pc := 43) dX8_takeDown_43 ?_
        refine x_iconst (pc := 44) (v := 1) dX8_takeDown_44 (by decide) ?_
        rw [j0]
        refine x_iadd (pc := 45) dX8_takeDown_45 ?_
        rw [j1]
        refine x_aldN (pc := 46) hS dX8_takeDown_46 rfl (by omega) (by decide) ?_
        rw [hC.2.1.1 57 (by decide), arr_setF, show arr w 57 (4 * k + 1) = vX cd (1 + 5 * nb) 1 k from h6 k hkn 1 (by decide)]
        refine x_astN (pc := 47) hS dX8_takeDown_47 rfl (by omega) (by decide) (fun hS => ?_)
        have hC := hC.st (x := vX cd (1 + 5 * nb) 1 k) 1 49 k (by decide) rfl rfl rfl rfl (by decide) (tdD_ne 1 rfl)
        refine x_aload_n (pc := 48) (i := 0) dX8_takeDown_48 rfl rfl ?_
        refine x_getR (pc := 49) hS fX8_25 dX8_takeDown_49 rfl rfl ?_
        refine x_iload_n (pc := 52) (i := 1) dX8_takeDown_52 rfl rfl ?_
        refine x_aload_n (pc := 53) (i := 0) dX8_takeDown_53 rfl rfl ?_
        refine x_getR (pc := 54) hS fX8_46 dX8_takeDown_54 rfl rfl ?_
        refine x_iconst (pc := 57) (v := 4) dX8_takeDown_57 (by decide) ?_
        refine x_iload_n (pc := 58) (i := 1) dX8_takeDown_58 rfl rfl ?_
        refine x_imul (pc := 59) dX8_takeDown_59 ?_
        refine x_iconst (pc := 60) (v := 2) dX8_takeDown_60 (by decide) ?_
        rw [j0]
        refine x_iadd (pc := 61) dX8_takeDown_61 ?_
        rw [j2]
        refine x_aldN (pc := 62) hS dX8_takeDown_62 rfl (by omega) (by decide) ?_
        rw [hC.2.1.1 57 (by decide), arr_setF, show arr w 57 (4 * k + 2) = vX cd (1 + 5 * nb) 2 k from h6 k hkn 2 (by decide)]
        refine x_astN (pc := 63) hS dX8_takeDown_63 rfl (by omega) (by decide) (fun hS => ?_)
        have hC := hC.st (x := vX cd (1 + 5 * nb) 2 k) 2 50 k (by decide) rfl rfl rfl rfl (by decide) (tdD_ne 2 rfl)
        refine x_aload_n (pc := 64) (i := 0) dX8_takeDown_64 rfl rfl ?_
        refine x_getR (pc := 65) hS fX8_28 dX8_takeDown_65 rfl rfl ?_
        refine x_iload_n (pc := 68) (i := 1) dX8_takeDown_68 rfl rfl ?_
        refine x_aload_n (pc := 69) (i := 0) dX8_takeDown_69 rfl rfl ?_
        refine x_getR (pc := 70) hS fX8_46 dX8_takeDown_70 rfl rfl ?_
        refine x_iconst (pc := 73) (v := 4) dX8_takeDown_73 (by decide) ?_
        refine x_iload_n (pc := 74) (i := 1) dX8_takeDown_74 rfl rfl ?_
        refine x_imul (pc := 75) dX8_takeDown_75 ?_
        refine x_iconst (pc := 76) (v := 3) dX8_takeDown_76 (by decide) ?_
        rw [j0]
        refine x_iadd (pc := 77) dX8_takeDown_77 ?_
        rw [j3]
        refine x_aldN (pc := 78) hS dX8_takeDown_78 rfl (by omega) (by decide) ?_
        rw [hC.2.1.1 57 (by decide), arr_setF, show arr w 57 (4 * k + 3) = vX cd (1 + 5 * nb) 3 k from h6 k hkn 3 (by decide)]
        refine x_astN (pc := 79) hS dX8_takeDown_79 rfl (by omega) (by decide) (fun hS => ?_)
        have hC := hC.st (x := vX cd (1 + 5 * nb) 3 k) 3 51 k (by decide) rfl rfl rfl rfl (by decide) (tdD_ne 3 rfl)
        refine x_iinc (pc := 80) (L' := [_, _]) dX8_takeDown_80 (by decide) rfl (by first | exact nI_inc _ | rfl) rfl ?_
        refine x_goto (pc := 83) (tgt := 10) dX8_takeDown_83 (by decide) ?_
        exact ih (k + 1) _ (hC.cg (fun a ha => by (repeat' split) <;> omega)) (by omega) (by omega)
  have hS := hS0
  refine mC.of (L := [_, _]) okX8_takeDown 1 rfl rfl ?_
  refine x_aload_n (pc := 0) (i := 0) dX8_takeDown_0 rfl rfl ?_
  refine x_aload_n (pc := 1) (i := 0) dX8_takeDown_1 rfl rfl ?_
  refine x_getI (pc := 2) hS fX8_122 dX8_takeDown_2 rfl rfl ?_
  rw [h4]
  refine x_putI (pc := 5) hS fX8_92 dX8_takeDown_5 rfl rfl rfl rfl (fun hS => ?_)
  refine x_iconst (pc := 8) (v := 0) dX8_takeDown_8 (by decide) ?_
  refine x_istore_n (pc := 9) (i := 1) (L' := [_, _]) dX8_takeDown_9 rfl (by decide) rfl ?_
  exact lp1 (nb + 1) 0 _ (cpT.zero hS1 (fun a _ => by split <;> rfl)) (by omega) (by omega)
theorem c_X8_down_no {d : Nat} {w : mW} {sh l i n : Int32} (hS : Shape w) (h : ¬ ((0 ≤ sh ∧ sh ≤ 3) ∧ (0 ≤ l ∧ l ≤ 2))) : mC (d + 2) kX8_down [.ref 44, .int sh, .int l, .int i, .int n] w (fun r w' => r = some (.int (if 0 ≤ sh ∧ sh ≤ 3 then -2 else -1)) ∧ w' = setF w 44 0 0) := by
  refine mC.of (L := [_, _, _, _, _, _, _]) okX8_down 2 rfl rfl ?_
  refine x_aload_n (pc := 0) (i := 0) dX8_down_0 rfl rfl ?_
  refine x_iconst (pc := 1) (v := 0) dX8_down_1 (by decide) ?_
  refine x_putI (pc := 2) hS fX8_82 dX8_down_2 rfl rfl rfl rfl (fun hS => ?_)
  refine x_iload_n (pc := 5) (i := 1) dX8_down_5 rfl rfl ?_
  refine x_ss (pc := 6) (As := [_]) rfl lX8_101 dX8_down_6 rfl (Nat.le_of_ble_eq_true rfl) c_X8_isSheet ?_
  rintro _ _ ⟨rfl, hq⟩
  obtain rfl := hq.symm
  refine x_pushI ?_
  refine x_if_ne (pc := 9) (tgt := 14) dX8_down_9 (by decide) (fun h9 => ?_) (fun h9 => ?_)
  · refine x_iload_n (pc := 14) (i := 2) dX8_down_14 rfl rfl ?_
    refine x_ss (pc := 15) (As := [_]) rfl lX8_105 dX8_down_15 rfl (Nat.le_of_ble_eq_true rfl) c_X8_isSort ?_
    rintro _ _ ⟨rfl, hq⟩
    obtain rfl := hq.symm
    refine x_pushI ?_
    refine x_if_ne (pc := 18) (tgt := 24) dX8_down_18 (by decide) (fun h18 => ?_) (fun h18 => ?_)
    · exact absurd ⟨b2_n0.mp h9, b2_n0.mp h18⟩ h
    · refine x_bipush (pc := 21) (v := (-2)) dX8_down_21 (by decide) ?_
      refine x_ri (pc := 23) dX8_down_23 rfl rfl ?_
      exact ⟨by rw [if_pos (b2_n0.mp h9)], rfl⟩
  · refine x_iconst (pc := 12) (v := (-1)) dX8_down_12 (by decide) ?_
    refine x_ri (pc := 13) dX8_down_13 rfl rfl ?_
    exact ⟨by rw [if_neg (b2_e0.mp h9)], rfl⟩
theorem mdown_w {d : Nat} {Q : Option Value → mW → Prop} {w : mW} {l i n : Int32} {s : Nat} (hs : s < 4) (hS0 : Shape w) (h : 0 ≤ l ∧ l ≤ 2) (k : mJ mX0 (d + 2) kX8_down Q 24 [.ref 44, .int (nI s), .int l, .int i, .int n, .null, .null] [] (setF w 44 0 0)) : mC (d + 2) kX8_down [.ref 44, .int (nI s), .int l, .int i, .int n] w Q := by
  have hS := hS0
  have ts : (nI s).toInt = (s : Int) := nI_toInt (by omega)
  refine mC.of (L := [_, _, _, _, _, _, _]) okX8_down 2 rfl rfl ?_
  refine x_aload_n (pc := 0) (i := 0) dX8_down_0 rfl rfl ?_
  refine x_iconst (pc := 1) (v := 0) dX8_down_1 (by decide) ?_
  refine x_putI (pc := 2) hS fX8_82 dX8_down_2 rfl rfl rfl rfl (fun hS => ?_)
  refine x_iload_n (pc := 5) (i := 1) dX8_down_5 rfl rfl ?_
  refine x_ss (pc := 6) (As := [_]) rfl lX8_101 dX8_down_6 rfl (Nat.le_of_ble_eq_true rfl) c_X8_isSheet ?_
  rintro _ _ ⟨rfl, hq⟩
  obtain rfl := hq.symm
  refine x_pushI ?_
  refine x_if_ne (pc := 9) (tgt := 14) dX8_down_9 (by decide) (fun h9 => ?_) (fun h9 => absurd h9 (by rw [b2_n0]; exact ⟨by rw [i_le, il_0, ts]; omega, by rw [i_le, il_3, ts]; omega⟩))
  refine x_iload_n (pc := 14) (i := 2) dX8_down_14 rfl rfl ?_
  refine x_ss (pc := 15) (As := [_]) rfl lX8_105 dX8_down_15 rfl (Nat.le_of_ble_eq_true rfl) c_X8_isSort ?_
  rintro _ _ ⟨rfl, hq⟩
  obtain rfl := hq.symm
  refine x_pushI ?_
  refine x_if_ne (pc := 18) (tgt := 24) dX8_down_18 (by decide) (fun h18 => ?_) (fun h18 => absurd h18 (by rw [b2_n0]; exact h))
  exact k
theorem c_X8_down_f {d : Nat} {w : mW} {l i n : Int32} {s : Nat} (hS0 : Shape w) (hs : s < 4) (h : 0 ≤ l ∧ l ≤ 2) (ha : ¬ agE (arr w 45 s) (arr w 46 s) l i n = 0) : mC (d + 2) kX8_down [.ref 44, .int (nI s), .int l, .int i, .int n] w (fun r w' => r = some (.int (-10 - agE (arr w 45 s) (arr w 46 s) l i n)) ∧ w' = setF w 44 0 (agE (arr w 45 s) (arr w 46 s) l i n)) := by
  refine mdown_w hs hS0 h ?_
  have hS : Shape (setF w 44 0 0) := hS0.stF rfl rfl _
  refine x_aload_n (pc := 24) (i := 0) dX8_down_24 rfl rfl ?_
  refine x_iload_n (pc := 25) (i := 1) dX8_down_25 rfl rfl ?_
  refine x_iload_n (pc := 26) (i := 2) dX8_down_26 rfl rfl ?_
  refine x_iload_n (pc := 27) (i := 3) dX8_down_27 rfl rfl ?_
  refine x_iload (pc := 28) dX8_down_28 rfl ?_
  refine x_vs (pc := 30) (As := [_, _, _, _]) rfl hS lX8_108 dX8_down_30 rfl rfl (Nat.le_of_ble_eq_true rfl) (c_X8_against hS hs) ?_
  rintro _ _ ⟨rfl, hq⟩
  obtain rfl := hq.symm
  refine x_pushI ?_
  rw [arr_setF, arr_setF]
  refine x_istore (pc := 33) (L' := [_, _, _, _, _, _, _]) dX8_down_33 (by decide) rfl ?_
  refine x_iload (pc := 35) dX8_down_35 rfl ?_
  refine x_if_eq (pc := 37) (tgt := 47) dX8_down_37 (by decide) (fun h37 => absurd h37 (by exact ha)) (fun h37 => ?_)
  refine x_aload_n (pc := 40) (i := 0) dX8_down_40 rfl rfl ?_
  refine x_iload (pc := 41) dX8_down_41 rfl ?_
  refine x_vs (pc := 43) (As := [_]) rfl hS lX8_112 dX8_down_43 rfl rfl (Nat.le_of_ble_eq_true rfl) (c_X8_fails hS) ?_
  rintro _ _ ⟨rfl, hq⟩
  obtain rfl := hq.symm
  refine x_pushI ?_
  refine x_ri (pc := 46) dX8_down_46 rfl rfl ?_
  exact ⟨rfl, setF_setF _ _ _ _ _⟩
abbrev mdA (w : mW) (F : Nat) : mW := setF (setF w 44 0 0) 44 17 (nI F)
theorem mdown_47 {d : Nat} {Q : Option Value → mW → Prop} {w : mW} {l : Int32} {s i0 n : Nat} (hS0 : Shape w) (hs : s < 4) (h : 0 ≤ l ∧ l ≤ 2) (ha : agE (arr w 45 s) (arr w 46 s) l (nI i0) (nI n) = 0) (k : mJ mX0 (d + 2) kX8_down Q 61 [.ref 44, .int (nI s), .int l, .int (nI i0), .int (nI n), .int 0, .int (nI (60 * s + i0))] [] (mdA w (60 * s + i0))) : mC (d + 2) kX8_down [.ref 44, .int (nI s), .int l, .int (nI i0), .int (nI n)] w Q := by
  refine mdown_w hs hS0 h ?_
  have hS : Shape (setF w 44 0 0) := hS0.stF rfl rfl _
  refine x_aload_n (pc := 24) (i := 0) dX8_down_24 rfl rfl ?_
  refine x_iload_n (pc := 25) (i := 1) dX8_down_25 rfl rfl ?_
  refine x_iload_n (pc := 26) (i := 2) dX8_down_26 rfl rfl ?_
  refine x_iload_n (pc := 27) (i := 3) dX8_down_27 rfl rfl ?_
  refine x_iload (pc := 28) dX8_down_28 rfl ?_
  refine x_vs (pc := 30) (As := [_, _, _, _]) rfl hS lX8_108 dX8_down_30 rfl rfl (Nat.le_of_ble_eq_true rfl) (c_X8_against hS hs) ?_
  rintro _ _ ⟨rfl, hq⟩
  obtain rfl := hq.symm
  refine x_pushI ?_
  rw [arr_setF, arr_setF, ha]
  refine x_istore (pc := 33) (L' := [_, _, _, _, _, _, _]) dX8_down_33 (by decide) rfl ?_
  refine x_iload (pc := 35) dX8_down_35 rfl ?_
  refine x_if_eq (pc := 37) (tgt := 47) dX8_down_37 (by decide) (fun h37 => ?_) (fun h37 => absurd h37 (by exact not_not_intro rfl))
  refine x_bipush (pc := 47) (v := 60) dX8_down_47 (by decide) ?_
  refine x_iload_n (pc := 49) (i := 1) dX8_down_49 rfl rfl ?_
  refine x_imul (pc := 50) dX8_down_50 ?_
  refine x_iload_n (pc := 51) (i := 3) dX8_down_51 rfl rfl ?_
  refine x_iadd (pc := 52) dX8_down_52 ?_
  rw [show (60 : Int32) * nI s = nI (60 * s) from pk_mul 60 s, nI_add]
  refine x_istore (pc := 53) (L' := [_, _, _, _, _, _, _]) dX8_down_53 (by decide) rfl ?_
  refine x_aload_n (pc := 55) (i := 0) dX8_down_55 rfl rfl ?_
  refine x_iload (pc := 56) dX8_down_56 rfl ?_
  refine x_putI (pc := 58) hS fX8_98 dX8_down_58 rfl rfl rfl rfl (fun hS => ?_)
  exact k
theorem mdA_S {w : mW} {F : Nat} (hS : Shape w) : Shape (mdA w F) := (hS.stF rfl rfl _).stF rfl rfl _
theorem mdA_g {w : mW} {F : Nat} : Gr [] [(44, 0), (44, 17)] w (mdA w F) := (Gr.rf.stF (by decide) _).stF (by decide) _
theorem mdA_0 {w : mW} {F : Nat} (hS : Shape w) : fld (mdA w F) 44 0 = 0 := by rw [fld_setF_k (by decide), fld_setF hS rfl rfl]
theorem c_X8_down_b {d : Nat} {w : mW} {l : Int32} {s i0 n t : Nat} {cd : Nat → Int32} (hs : s < 4) (h : 0 ≤ l ∧ l ≤ 2) (ha : agE (arr w 45 s) (arr w 46 s) l (nI i0) (nI n) = 0) (hT : cdM w (60 * s + i0) n cd) (hb : (fT cd n).1 = some t) : mC (d + 4) kX8_down [.ref 44, .int (nI s), .int l, .int (nI i0), .int (nI n)] w (fun r w' => r = some (.int (-100 - nI t)) ∧ Shape w' ∧ Gr [57, 58] [(44, 0), (44, 17), (44, 18), (44, 19)] w w' ∧ fld w' 44 0 = 0) := by
  have hS0 := hT.1
  have hF := hT.2.1
  have ht := fT_le hb
  refine mdown_47 hS0 hs h ha ?_
  have hS := mdA_S (F := 60 * s + i0) hS0
  have hrd := c_X8_readDown (d := d) (hT.gr hS mdA_g (by decide)) (fld_setF (hS0.stF rfl rfl _) rfl rfl _)
  refine x_aload_n (pc := 61) (i := 0) dX8_down_61 rfl rfl ?_
  refine x_iload (pc := 62) dX8_down_62 rfl ?_
  refine x_iload (pc := 64) dX8_down_64 rfl ?_
  refine x_iadd (pc := 66) dX8_down_66 ?_
  rw [nI_add]
  refine x_vs (pc := 67) (As := [_]) rfl hS lX8_116 dX8_down_67 rfl rfl (Nat.le_of_ble_eq_true rfl) hrd ?_
  rintro _ w2 (⟨t', e1, rfl, hS, g2, a2⟩ | ⟨e1, -, -⟩)
  case inr => rw [hb] at e1; cases e1
  obtain rfl : t = t' := by rw [hb] at e1; cases e1; rfl
  refine x_pushI ?_
  refine x_if_ne (pc := 70) (tgt := 84) dX8_down_70 (by decide) (fun h70 => absurd h70 (by exact not_not_intro rfl)) (fun h70 => ?_)
  refine x_bipush (pc := 73) (v := (-100)) dX8_down_73 (by decide) ?_
  refine x_aload_n (pc := 75) (i := 0) dX8_down_75 rfl rfl ?_
  refine x_getI (pc := 76) hS fX8_98 dX8_down_76 rfl rfl ?_
  rw [a2]
  refine x_iload (pc := 79) dX8_down_79 rfl ?_
  refine x_isub (pc := 81) dX8_down_81 ?_
  rw [nI_subN (by omega) (by omega), show 60 * s + i0 + t - (60 * s + i0) = t by omega]
  refine x_isub (pc := 82) dX8_down_82 ?_
  refine x_ri (pc := 83) dX8_down_83 rfl rfl ?_
  exact ⟨rfl, hS, (mdA_g.up (by decide) (by decide)).tr (g2.up (by decide) (by decide)), by rw [g2.2 44 0 (by decide)]; exact mdA_0 hS0⟩
theorem c_X8_down_t {d : Nat} {w : mW} {l : Int32} {s i0 n : Nat} {cd : Nat → Int32} (hs : s < 4) (h : 0 ≤ l ∧ l ≤ 2) (ha : agE (arr w 45 s) (arr w 46 s) l (nI i0) (nI n) = 0) (hT : cdM w (60 * s + i0) n cd) (hb : (fT cd n).1 = none) : mC (d + 4) kX8_down [.ref 44, .int (nI s), .int l, .int (nI i0), .int (nI n)] w (fun r w' => r = some (.int (nI (fT cd n).2.1)) ∧ ∃ w2, Gr [57, 58] [(44, 0), (44, 17), (44, 18), (44, 19)] w w2 ∧ fld w2 44 0 = 0 ∧ tdP cd (fT cd n).2.1 (fT cd n).2.2 w2 w') := by
  have hS0 := hT.1
  have hF := hT.2.1
  obtain ⟨o1, o2, o3, o4, -, -⟩ := fT_ok hb
  refine mdown_47 hS0 hs h ha ?_
  have hS := mdA_S (F := 60 * s + i0) hS0
  have hrd := c_X8_readDown (d := d) (hT.gr hS mdA_g (by decide)) (fld_setF (hS0.stF rfl rfl _) rfl rfl _)
  refine x_aload_n (pc := 61) (i := 0) dX8_down_61 rfl rfl ?_
  refine x_iload (pc := 62) dX8_down_62 rfl ?_
  refine x_iload (pc := 64) dX8_down_64 rfl ?_
  refine x_iadd (pc := 66) dX8_down_66 ?_
  rw [nI_add]
  refine x_vs (pc := 67) (As := [_]) rfl hS lX8_116 dX8_down_67 rfl rfl (Nat.le_of_ble_eq_true rfl) hrd ?_
  rintro _ w2 (⟨t', e1, -⟩ | ⟨-, rfl, p, hD⟩)
  case inl => rw [hb] at e1; cases e1
  have hS := hD.1
  refine x_pushI ?_
  refine x_if_ne (pc := 70) (tgt := 84) dX8_down_70 (by decide) (fun h70 => ?_) (fun h70 => absurd h70 (by decide))
  refine x_aload_n (pc := 84) (i := 0) dX8_down_84 rfl rfl ?_
  refine x_vs (pc := 85) (As := []) rfl hS lX8_119 dX8_down_85 rfl rfl (Nat.le_of_ble_eq_true rfl) (c_X8_takeDown hD o2 o4) ?_
  rintro _ w3 ⟨rfl, hP⟩
  have hS := hP.1
  refine x_pushV ?_
  refine x_aload_n (pc := 88) (i := 0) dX8_down_88 rfl rfl ?_
  refine x_getI (pc := 89) hS fX8_92 dX8_down_89 rfl rfl ?_
  rw [hP.2.2.1]
  refine x_ri (pc := 92) dX8_down_92 rfl rfl ?_
  exact ⟨rfl, w2, (mdA_g.up (by decide) (by decide)).tr (hD.2.1.up (by decide) (by decide)), by rw [hD.2.1.2 44 0 (by decide)]; exact mdA_0 hS0, hP⟩

