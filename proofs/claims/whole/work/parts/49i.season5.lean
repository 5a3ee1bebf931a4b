-- seasons: the reference's call; both
theorem nSt_out {NB : Int32} {pe : Nat → Int32} {nw : Nat} {s : A3} : ∀ t j, nw ≤ j → (nSt NB pe nw t s).1 j = s.1 j ∧ (nSt NB pe nw t s).2.1 j = s.2.1 j ∧ (nSt NB pe nw t s).2.2 j = s.2.2 j
  | 0, _, _ => ⟨rfl, rfl, rfl⟩
  | t + 1, j, hj => by
    obtain ⟨a, b, c⟩ := nSt_out (NB := NB) (pe := pe) (s := s) t j hj
    refine ⟨?_, ?_, ?_⟩
    · show nMe NB pe (nSt NB pe nw t s).1 (nSt NB pe nw t s).2.1 nw j = _
      unfold nMe; rw [if_neg (by omega)]; exact a
    · show nLo NB pe (nSt NB pe nw t s).1 (nSt NB pe nw t s).2.1 nw j = _
      unfold nLo; rw [if_neg (by omega)]; exact b
    · show nCo NB pe (nSt NB pe nw t s).1 (nSt NB pe nw t s).2.1 (nSt NB pe nw t s).2.2 nw j = _
      unfold nCo; rw [if_neg (by omega)]; exact c
def sOK (nb nw : Nat) (re : Nat → Int32) (s0 s : S5) : Prop := WalOK nb nw s.1 s.2.1 re s.2.2.1 ∧ ∀ j, nw ≤ j → s.1 j = s0.1 j ∧ s.2.1 j = s0.2.1 j ∧ s.2.2.1 j = s0.2.2.1 j ∧ s.2.2.2.1 j = s0.2.2.2.1 j
theorem sSt_ok {NB NW : Int32} {nb nw : Nat} {ki be pe si re : Nat → Int32} {a b : Int32} {s0 s s' : S5} (tb : NB.toInt = (nb : Int)) (hnb : nb ≤ 5) (tw : NW.toInt = (nw : Int)) (hB : BarOK nb ki be pe si) (hg : gP NB NW a b) (hs : sOK nb nw re s0 s) (h : sSt NB NW nw ki be pe si re a b s = some s') : sOK nb nw re s0 s' := by
  obtain ⟨hW, ho⟩ := hs
  unfold sSt at h
  by_cases e9 : b = 9
  · have ha := clampLt tw (hg.w (by rw [e9]; decide)).2
    rw [if_pos e9] at h
    by_cases q : inB NB s.2.2.1 a.toNatClampNeg
    · rw [if_pos q] at h
      obtain rfl := (Option.some.inj h).symm
      refine ⟨hW.lo (Or.inl rfl), fun j hj => ?_⟩
      obtain ⟨k1, k2, k3, k4⟩ := ho j hj
      exact ⟨k1, k2, by show upd _ _ _ j = _; rw [pk_un (by omega)]; exact k3, k4⟩
    · rw [if_neg q] at h; cases h
  · rw [if_neg e9] at h
    by_cases e8 : b = 8
    · rw [if_pos e8] at h
      obtain rfl := (Option.some.inj h).symm
      refine ⟨nSt_ok tb hnb (fun j hj => (hB j hj).2.2.1) (s.1, s.2.2.1, s.2.2.2.1) hW _, fun j hj => ?_⟩
      obtain ⟨k1, k2, k3, k4⟩ := ho j hj
      obtain ⟨n1, n2, n3⟩ := nSt_out (NB := NB) (pe := pe) (nw := nw) (s := (s.1, s.2.2.1, s.2.2.2.1)) a.toNatClampNeg j hj
      exact ⟨n1.trans k1, k2, n2.trans k3, n3.trans k4⟩
    · rw [if_neg e8] at h
      obtain ⟨w1, w2⟩ := hg.w e8
      have ha := clampLt tw w2
      obtain ⟨b', hb', rfl⟩ := in_nI tb (by omega) (w1.resolve_left e9)
      by_cases q : canE NB NW nw ki be pe si s.1 s.2.1 re s.2.2.1 a (nI b')
      · rw [if_pos q] at h
        obtain rfl := (Option.some.inj h).symm
        refine ⟨(hW.pl (by rw [nI_clamp (by omega)]; exact (hB b' hb').2.2.2)).lo (Or.inr ⟨b', hb', rfl⟩), fun j hj => ?_⟩
        obtain ⟨k1, k2, k3, k4⟩ := ho j hj
        exact ⟨k1, by show upd _ _ _ j = _; rw [pk_un (by omega)]; exact k2, by show upd _ _ _ j = _; rw [pk_un (by omega)]; exact k3, k4⟩
      · rw [if_neg q] at h; cases h
abbrev mG (w : mW) (nw F k : Nat) : Option Nat × S5 := sGo (fun t s => sM w nw (arr w 47 (F + 2 * t)) (arr w 47 (F + 2 * t + 1)) s) k (arr w 52, arr w 53, arr w 55, arr w 56, 0)
theorem mPost.S {w0 w' : mW} {st : Option S5} {s : S5} {c : Int32} (h : (c = 0 ∧ st = none ∧ mS w0 s w') ∨ (c = 1 ∧ ∃ s', st = some s' ∧ mS w0 s' w')) : Shape w' := by
  rcases h with z | ⟨-, s', -, z⟩
  · exact z.2.2.1
  · exact z.1
theorem c_X8_goSeason {d : Nat} {w : mW} {F n nb nw : Nat} (hS0 : Shape w) (tb : (fld w 44 5).toInt = (nb : Int)) (hnb : nb ≤ 5) (tw : (fld w 44 6).toInt = (nw : Int)) (hnw : nw ≤ 5) (hB : BarOK nb (arr w 48) (arr w 49) (arr w 50) (arr w 51)) (hW : WalOK nb nw (arr w 52) (arr w 53) (arr w 54) (arr w 55)) (hn : n ≤ 20) (hF : F + 2 * n ≤ 240) (hg : ∀ t, t < n → gP (fld w 44 5) (fld w 44 6) (arr w 47 (F + 2 * t)) (arr w 47 (F + 2 * t + 1))) : mC (d + 4) kX8_goSeason [.ref 44, .int (nI F), .int (nI n)] w (fun r w' => r = some (.int (fwE (mG w nw F n).1)) ∧ mS w (mG w nw F n).2 w' ∧ sOK nb nw (arr w 54) (arr w 52, arr w 53, arr w 55, arr w 56, 0) (mG w nw F n).2) := by
  have tn : (nI n).toInt = (n : Int) := nI_toInt (by omega)
  have lp : ∀ (m k : Nat) (s1 : S5) (w1 : mW), k ≤ n → n < k + m → mG w nw F k = (none, s1) → mS w s1 w1 → sOK nb nw (arr w 54) (arr w 52, arr w 53, arr w 55, arr w 56, 0) s1 → mJ mX0 (d + 4) kX8_goSeason (fun r w' => r = some (.int (fwE (mG w nw F n).1)) ∧ mS w (mG w nw F n).2 w' ∧ sOK nb nw (arr w 54) (arr w 52, arr w 53, arr w 55, arr w 56, 0) (mG w nw F n).2) 7 [.ref 44, .int (nI F), .int (nI n), .int (nI k)] [] w1 := by
    intro m
    induction m with
    | zero => intro k s1 w1 h1 h2; omega
    | succ m ih =>
      intro k s1 w1 hk1 hk2 hG hX hok
      have hS := hX.1
      have tk : (nI k).toInt = (k : Int) := nI_toInt (by omega)
      have i2 : (2 : Int32) * nI k = nI (2 * k) := pk_mul 2 k
      refine x_iload_n (pc := 7) (i := 3) dX8_goSeason_7 rfl rfl ?_
      refine x_iload_n (pc := 8) (i := 2) dX8_goSeason_8 rfl rfl ?_
      refine x_icmp_ge (pc := 9) (tgt := 49) dX8_goSeason_9 (by decide) (fun h9 => ?_) (fun h9 => ?_)
      · refine x_bipush (pc := 49) (v := (-9)) dX8_goSeason_49 (by decide) ?_
        refine x_ri (pc := 51) dX8_goSeason_51 rfl rfl ?_
        have e := show k = n by (try simp only [b2_e0, b2_n0, Decidable.not_not] at *) <;> (try simp only [i_lt, i_le, i_eq, not_and, not_or, ne_eq, il_0, il_1, il_2, il_3, il_4, il_5, il_6, il_7, il_8, il_9, il_10, il_14, il_15, il_19, il_20, il_24, il_30, il_31, il_44, il_48, il_49, il_52, il_57, il_59, il_60, il_70, il_99, il_100, il_103, il_108, il_114, il_m1, il_m2, il_m3, il_m4, il_m9, il_m10, il_m100] at *) <;> omega
        subst e
        rw [hG]
        exact ⟨rfl, hX, hok⟩
      · have hkn : k < n := by (try simp only [b2_e0, b2_n0, Decidable.not_not] at *) <;> (try simp only [i_lt, i_le, i_eq, not_and, not_or, ne_eq, il_0, il_1, il_2, il_3, il_4, il_5, il_6, il_7, il_8, il_9, il_10, il_14, il_15, il_19, il_20, il_24, il_30, il_31, il_44, il_48, il_49, il_52, il_57, il_59, il_60, il_70, il_99, il_100, il_103, il_108, il_114, il_m1, il_m2, il_m3, il_m4, il_m9, il_m10, il_m100] at *) <;> omega
        refine x_aload_n (pc := 12) (i := 0) dX8_goSeason_12 rfl rfl ?_
        refine x_aload_n (pc := 13) (i := 0) dX8_goSeason_13 rfl rfl ?_
        refine x_getR (pc := 14) hS fX8_16 dX8_goSeason_14 rfl rfl ?_
        refine x_iload_n (pc := 17) (i := 1) dX8_goSeason_17 rfl rfl ?_
        refine x_iconst (pc := 18) (v := 2) dX8_goSeason_18 (by decide) ?_
        refine x_iload_n (pc := 19) (i := 3) dX8_goSeason_19 rfl rfl ?_
        refine x_imul (pc := 20) dX8_goSeason_20 ?_
        refine x_iadd (pc := 21) dX8_goSeason_21 ?_
        rw [i2, nI_add]
        refine x_aldN (pc := 22) hS dX8_goSeason_22 rfl (by omega) (by decide) ?_
        rw [hX.2.1.1 47 (by decide)]
        refine x_aload_n (pc := 23) (i := 0) dX8_goSeason_23 rfl rfl ?_
        refine x_getR (pc := 24) hS fX8_16 dX8_goSeason_24 rfl rfl ?_
        refine x_iload_n (pc := 27) (i := 1) dX8_goSeason_27 rfl rfl ?_
        refine x_iconst (pc := 28) (v := 2) dX8_goSeason_28 (by decide) ?_
        refine x_iload_n (pc := 29) (i := 3) dX8_goSeason_29 rfl rfl ?_
        refine x_imul (pc := 30) dX8_goSeason_30 ?_
        refine x_iadd (pc := 31) dX8_goSeason_31 ?_
        refine x_iconst (pc := 32) (v := 1) dX8_goSeason_32 (by decide) ?_
        refine x_iadd (pc := 33) dX8_goSeason_33 ?_
        rw [i2, nI_add, nI_1]
        refine x_aldN (pc := 34) hS dX8_goSeason_34 rfl (by omega) (by decide) ?_
        rw [hX.2.1.1 47 (by decide)]
        refine x_vs (pc := 35) (As := [_, _]) rfl hS lX8_187 dX8_goSeason_35 rfl rfl (Nat.le_of_ble_eq_true rfl) (c_X8_does hX tb hnb tw hnw hB hok.1 (hg k hkn)) ?_
        rintro _ w2 ⟨c, rfl, hr⟩
        have hS := mPost.S hr
        refine x_pushI ?_
        refine x_if_ne (pc := 38) (tgt := 43) dX8_goSeason_38 (by decide) (fun h38 => ?_) (fun h38 => ?_)
        · refine x_iinc (pc := 43) (L' := [_, _, _, _]) dX8_goSeason_43 (by decide) rfl (by first | exact nI_inc _ | rfl) rfl ?_
          refine x_goto (pc := 46) (tgt := 7) dX8_goSeason_46 (by decide) ?_
          rcases hr with z | ⟨-, s2, e2, hX2⟩
          · exact absurd z.1 h38
          · exact ih (k + 1) s2 w2 (by omega) (by omega) (sGo_yes hG e2) hX2 (sSt_ok tb hnb tw hB (hg k hkn) hok e2)
        · refine x_iload_n (pc := 41) (i := 3) dX8_goSeason_41 rfl rfl ?_
          refine x_ri (pc := 42) dX8_goSeason_42 rfl rfl ?_
          rcases hr with ⟨-, e2, hX2⟩ | z
          · have e9 : mG w nw F n = (some k, s1) := sGo_no hG e2 hkn
            rw [e9]; exact ⟨rfl, hX2, hok⟩
          · rw [h38] at z; exact absurd z.1 (by decide)
  have hS := hS0
  have hX0 : mS w (arr w 52, arr w 53, arr w 55, arr w 56, 0) (setF w 44 26 0) := ⟨hS0.stF rfl rfl _, Gr.rf.stF (by decide) _, by rw [arr_setF], by rw [arr_setF], by rw [arr_setF], by rw [arr_setF], by rw [fld_setF hS0 rfl rfl]⟩
  refine mC.of (L := [_, _, _, _]) okX8_goSeason 1 rfl rfl ?_
  refine x_aload_n (pc := 0) (i := 0) dX8_goSeason_0 rfl rfl ?_
  refine x_iconst (pc := 1) (v := 0) dX8_goSeason_1 (by decide) ?_
  refine x_putI (pc := 2) hS fX8_184 dX8_goSeason_2 rfl rfl rfl rfl (fun hS => ?_)
  refine x_iconst (pc := 5) (v := 0) dX8_goSeason_5 (by decide) ?_
  refine x_istore_n (pc := 6) (i := 3) (L' := [_, _, _, _]) dX8_goSeason_6 rfl (by decide) rfl ?_
  exact lp (n + 1) 0 _ _ (by omega) (by omega) rfl hX0 ⟨hW, fun j _ => ⟨rfl, rfl, rfl, rfl⟩⟩
def telM (NW : Int32) (nw : Nat) (x : Int32) (s : S5) : Int32 := if 20 ≤ x then (if 0 ≤ x - 20 ∧ x - 20 < NW then s.2.2.2.1 (x - 20).toNatClampNeg else -9) else if 10 ≤ x then (if 0 ≤ x - 10 ∧ x - 10 < NW then s.2.2.1 (x - 10).toNatClampNeg else -9) else if x < 3 then (if x = 0 then nI (bitsN (someP s.2.2.1) nw) else s.2.2.2.2) else sumN s.1 nw
theorem c_X8_tellSeason {d : Nat} {w0 w : mW} {s : S5} {nw : Nat} {x : Int32} (hX : mS w0 s w) (tw : (fld w0 44 6).toInt = (nw : Int)) (hnw : nw ≤ 5) : mC (d + 2) kX8_tellSeason [.ref 44, .int x] w (fun r w' => r = some (.int (telM (fld w0 44 6) nw x s)) ∧ w' = w) := by
  obtain ⟨hS, g, x52, x53, x55, x56, xp⟩ := id hX
  have tw' : (fld w 44 6).toInt = (nw : Int) := by rw [g.2 44 6 (by decide)]; exact tw
  unfold telM
  have lp : ¬ 20 ≤ x → ¬ 10 ≤ x → ¬ x < 3 → ∀ (m k : Nat), k ≤ nw → nw < k + m → mJ mX0 (d + 2) kX8_tellSeason (fun r w' => r = some (.int (if 20 ≤ x then (if 0 ≤ x - 20 ∧ x - 20 < fld w0 44 6 then s.2.2.2.1 (x - 20).toNatClampNeg else -9) else if 10 ≤ x then (if 0 ≤ x - 10 ∧ x - 10 < fld w0 44 6 then s.2.2.1 (x - 10).toNatClampNeg else -9) else if x < 3 then (if x = 0 then nI (bitsN (someP s.2.2.1) nw) else s.2.2.2.2) else sumN s.1 nw)) ∧ w' = w) 89 [.ref 44, .int x, .int (sumN s.1 k), .int (nI k)] [] w := by
    intro n20 n10 n3 m
    induction m with
    | zero => intro k h1 h2; omega
    | succ m ih =>
      intro k hk1 hk2
      have tk : (nI k).toInt = (k : Int) := nI_toInt (by omega)
      refine x_iload_n (pc := 89) (i := 3) dX8_tellSeason_89 rfl rfl ?_
      refine x_aload_n (pc := 90) (i := 0) dX8_tellSeason_90 rfl rfl ?_
      refine x_getI (pc := 91) hS fX8_95 dX8_tellSeason_91 rfl rfl ?_
      refine x_icmp_ge (pc := 94) (tgt := 112) dX8_tellSeason_94 (by decide) (fun h94 => ?_) (fun h94 => ?_)
      · refine x_iload_n (pc := 112) (i := 2) dX8_tellSeason_112 rfl rfl ?_
        refine x_ri (pc := 113) dX8_tellSeason_113 rfl rfl ?_
        have e := show k = nw by (try simp only [b2_e0, b2_n0, Decidable.not_not] at *) <;> (try simp only [i_lt, i_le, i_eq, not_and, not_or, ne_eq, il_0, il_1, il_2, il_3, il_4, il_5, il_6, il_7, il_8, il_9, il_10, il_14, il_15, il_19, il_20, il_24, il_30, il_31, il_44, il_48, il_49, il_52, il_57, il_59, il_60, il_70, il_99, il_100, il_103, il_108, il_114, il_m1, il_m2, il_m3, il_m4, il_m9, il_m10, il_m100] at *) <;> omega
        rw [e]
        exact ⟨by rw [if_neg n20, if_neg n10, if_neg n3], rfl⟩
      · refine x_iload_n (pc := 97) (i := 2) dX8_tellSeason_97 rfl rfl ?_
        refine x_aload_n (pc := 98) (i := 0) dX8_tellSeason_98 rfl rfl ?_
        refine x_getR (pc := 99) hS fX8_31 dX8_tellSeason_99 rfl rfl ?_
        refine x_iload_n (pc := 102) (i := 3) dX8_tellSeason_102 rfl rfl ?_
        refine x_aldN (pc := 103) hS dX8_tellSeason_103 rfl (by (try simp only [b2_e0, b2_n0, Decidable.not_not] at *) <;> (try simp only [i_lt, i_le, i_eq, not_and, not_or, ne_eq, il_0, il_1, il_2, il_3, il_4, il_5, il_6, il_7, il_8, il_9, il_10, il_14, il_15, il_19, il_20, il_24, il_30, il_31, il_44, il_48, il_49, il_52, il_57, il_59, il_60, il_70, il_99, il_100, il_103, il_108, il_114, il_m1, il_m2, il_m3, il_m4, il_m9, il_m10, il_m100] at *) <;> omega) (by decide) ?_
        rw [x52]
        refine x_iadd (pc := 104) dX8_tellSeason_104 ?_
        refine x_istore_n (pc := 105) (i := 2) (L' := [_, _, _, _]) dX8_tellSeason_105 rfl (by decide) rfl ?_
        refine x_iinc (pc := 106) (L' := [_, _, _, _]) dX8_tellSeason_106 (by decide) rfl (by first | exact nI_inc _ | rfl) rfl ?_
        refine x_goto (pc := 109) (tgt := 89) dX8_tellSeason_109 (by decide) ?_
        exact ih (k + 1) (by (try simp only [b2_e0, b2_n0, Decidable.not_not] at *) <;> (try simp only [i_lt, i_le, i_eq, not_and, not_or, ne_eq, il_0, il_1, il_2, il_3, il_4, il_5, il_6, il_7, il_8, il_9, il_10, il_14, il_15, il_19, il_20, il_24, il_30, il_31, il_44, il_48, il_49, il_52, il_57, il_59, il_60, il_70, il_99, il_100, il_103, il_108, il_114, il_m1, il_m2, il_m3, il_m4, il_m9, il_m10, il_m100] at *) <;> omega) (by omega)
  refine mC.of (L := [_, _, _, _]) okX8_tellSeason 2 rfl rfl ?_
  refine x_iload_n (pc := 0) (i := 1) dX8_tellSeason_0 rfl rfl ?_
  refine x_bipush (pc := 1) (v := 20) dX8_tellSeason_1 (by decide) ?_
  refine x_icmp_lt (pc := 3) (tgt := 32) dX8_tellSeason_3 (by decide) (fun h3 => ?_) (fun h3 => ?_)
  · refine x_iload_n (pc := 32) (i := 1) dX8_tellSeason_32 rfl rfl ?_
    refine x_bipush (pc := 33) (v := 10) dX8_tellSeason_33 (by decide) ?_
    refine x_icmp_lt (pc := 35) (tgt := 64) dX8_tellSeason_35 (by decide) (fun h35 => ?_) (fun h35 => ?_)
    · refine x_iload_n (pc := 64) (i := 1) dX8_tellSeason_64 rfl rfl ?_
      refine x_iconst (pc := 65) (v := 3) dX8_tellSeason_65 (by decide) ?_
      refine x_icmp_ge (pc := 66) (tgt := 85) dX8_tellSeason_66 (by decide) (fun h66 => ?_) (fun h66 => ?_)
      · refine x_iconst (pc := 85) (v := 0) dX8_tellSeason_85 (by decide) ?_
        refine x_istore_n (pc := 86) (i := 2) (L' := [_, _, _, _]) dX8_tellSeason_86 rfl (by decide) rfl ?_
        refine x_iconst (pc := 87) (v := 0) dX8_tellSeason_87 (by decide) ?_
        refine x_istore_n (pc := 88) (i := 3) (L' := [_, _, _, _]) dX8_tellSeason_88 rfl (by decide) rfl ?_
        exact lp (Int32.not_le.mpr h3) (Int32.not_le.mpr h35) (Int32.not_lt.mpr h66) (nw + 1) 0 (by omega) (by omega)
      · refine x_iload_n (pc := 69) (i := 1) dX8_tellSeason_69 rfl rfl ?_
        refine x_if_ne (pc := 70) (tgt := 80) dX8_tellSeason_70 (by decide) (fun h70 => ?_) (fun h70 => ?_)
        · refine x_aload_n (pc := 80) (i := 0) dX8_tellSeason_80 rfl rfl ?_
          refine x_getI (pc := 81) hS fX8_184 dX8_tellSeason_81 rfl rfl ?_
          first | rw [xp] | skip
          refine x_ri (pc := 84) dX8_tellSeason_84 rfl rfl ?_
          refine ⟨?_, rfl⟩
          rw [if_neg (Int32.not_le.mpr h3), if_neg (Int32.not_le.mpr h35), if_pos (Int32.not_le.mp h66)]
          first | (have z9 : x = 0 := h70; rw [if_pos z9]) | (have z9 : ¬ x = 0 := h70; rw [if_neg z9])
        · refine x_aload_n (pc := 73) (i := 0) dX8_tellSeason_73 rfl rfl ?_
          refine x_vs (pc := 74) (As := []) rfl hS lX8_205 dX8_tellSeason_74 rfl rfl (Nat.le_of_ble_eq_true rfl) (c_X8_whoLodges hS tw' hnw) ?_
          rintro _ _ ⟨rfl, hq⟩
          obtain rfl := hq.symm
          refine x_pushI ?_
          rw [x55]
          refine x_goto (pc := 77) (tgt := 84) dX8_tellSeason_77 (by decide) ?_
          first | rw [xp] | skip
          refine x_ri (pc := 84) dX8_tellSeason_84 rfl rfl ?_
          refine ⟨?_, rfl⟩
          rw [if_neg (Int32.not_le.mpr h3), if_neg (Int32.not_le.mpr h35), if_pos (Int32.not_le.mp h66)]
          first | (have z9 : x = 0 := h70; rw [if_pos z9]) | (have z9 : ¬ x = 0 := h70; rw [if_neg z9])
    · refine x_aload_n (pc := 38) (i := 0) dX8_tellSeason_38 rfl rfl ?_
      refine x_iload_n (pc := 39) (i := 1) dX8_tellSeason_39 rfl rfl ?_
      refine x_bipush (pc := 40) (v := 10) dX8_tellSeason_40 (by decide) ?_
      refine x_isub (pc := 42) dX8_tellSeason_42 ?_
      refine x_vs (pc := 43) (As := [_]) rfl hS lX8_161 dX8_tellSeason_43 rfl rfl (Nat.le_of_ble_eq_true rfl) (c_X8_isWalker hS) ?_
      rintro _ _ ⟨rfl, hq⟩
      obtain rfl := hq.symm
      refine x_pushI ?_
      rw [g.2 44 6 (by decide)]
      refine x_if_eq (pc := 46) (tgt := 61) dX8_tellSeason_46 (by decide) (fun h46 => ?_) (fun h46 => ?_)
      · refine x_bipush (pc := 61) (v := (-9)) dX8_tellSeason_61 (by decide) ?_
        refine x_ri (pc := 63) dX8_tellSeason_63 rfl rfl ?_
        first | exact ⟨rfl, rfl⟩ | (have z9 := b2_e0.mp h46; exact ⟨by rw [if_neg (Int32.not_le.mpr h3), if_pos (Int32.not_lt.mp h35), if_neg z9], rfl⟩)
      · rw [if_neg (Int32.not_le.mpr h3), if_pos (Int32.not_lt.mp h35), if_pos (b2_n0.mp h46)]
        refine x_aload_n (pc := 49) (i := 0) dX8_tellSeason_49 rfl rfl ?_
        refine x_getR (pc := 50) hS fX8_40 dX8_tellSeason_50 rfl rfl ?_
        refine x_iload_n (pc := 53) (i := 1) dX8_tellSeason_53 rfl rfl ?_
        refine x_bipush (pc := 54) (v := 10) dX8_tellSeason_54 (by decide) ?_
        refine x_isub (pc := 56) dX8_tellSeason_56 ?_
        refine x_ald (pc := 57) hS dX8_tellSeason_57 rfl (by obtain ⟨j, hj, ej⟩ := in_nI tw (by omega) (b2_n0.mp h46); rw [ej]; exact vp_in_nI (by omega) (by decide)) ?_
        rw [x55]
        refine x_goto (pc := 58) (tgt := 63) dX8_tellSeason_58 (by decide) ?_
        refine x_ri (pc := 63) dX8_tellSeason_63 rfl rfl ?_
        first | exact ⟨rfl, rfl⟩ | (have z9 := b2_e0.mp h46; exact ⟨by rw [if_neg (Int32.not_le.mpr h3), if_pos (Int32.not_lt.mp h35), if_neg z9], rfl⟩)
  · refine x_aload_n (pc := 6) (i := 0) dX8_tellSeason_6 rfl rfl ?_
    refine x_iload_n (pc := 7) (i := 1) dX8_tellSeason_7 rfl rfl ?_
    refine x_bipush (pc := 8) (v := 20) dX8_tellSeason_8 (by decide) ?_
    refine x_isub (pc := 10) dX8_tellSeason_10 ?_
    refine x_vs (pc := 11) (As := [_]) rfl hS lX8_161 dX8_tellSeason_11 rfl rfl (Nat.le_of_ble_eq_true rfl) (c_X8_isWalker hS) ?_
    rintro _ _ ⟨rfl, hq⟩
    obtain rfl := hq.symm
    refine x_pushI ?_
    rw [g.2 44 6 (by decide)]
    refine x_if_eq (pc := 14) (tgt := 29) dX8_tellSeason_14 (by decide) (fun h14 => ?_) (fun h14 => ?_)
    · refine x_bipush (pc := 29) (v := (-9)) dX8_tellSeason_29 (by decide) ?_
      refine x_ri (pc := 31) dX8_tellSeason_31 rfl rfl ?_
      first | exact ⟨rfl, rfl⟩ | (have z9 := b2_e0.mp h14; exact ⟨by rw [if_pos (Int32.not_lt.mp h3), if_neg z9], rfl⟩)
    · have z20 : 20 ≤ x := Int32.not_lt.mp h3
      rw [if_pos z20, if_pos (b2_n0.mp h14)]
      refine x_aload_n (pc := 17) (i := 0) dX8_tellSeason_17 rfl rfl ?_
      skip
      refine x_getR (pc := 18) hS fX8_43 dX8_tellSeason_18 rfl rfl ?_
      refine x_iload_n (pc := 21) (i := 1) dX8_tellSeason_21 rfl rfl ?_
      refine x_bipush (pc := 22) (v := 20) dX8_tellSeason_22 (by decide) ?_
      refine x_isub (pc := 24) dX8_tellSeason_24 ?_
      refine x_ald (pc := 25) hS dX8_tellSeason_25 rfl (by obtain ⟨j, hj, ej⟩ := in_nI tw (by omega) (b2_n0.mp h14); rw [ej]; exact vp_in_nI (by omega) (by decide)) ?_
      rw [x56]
      refine x_goto (pc := 26) (tgt := 31) dX8_tellSeason_26 (by decide) ?_
      refine x_ri (pc := 31) dX8_tellSeason_31 rfl rfl ?_
      first | exact ⟨rfl, rfl⟩ | (have z9 := b2_e0.mp h14; exact ⟨by rw [if_pos (Int32.not_lt.mp h3), if_neg z9], rfl⟩)

