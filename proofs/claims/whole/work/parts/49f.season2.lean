-- seasons: the class
def xS (w0 : mW) (s : S5) (w : mW) : Prop := Shape w ∧ Gr [23, 24, 26, 27] [(17, 4), (17, 5), (18, 2)] w0 w ∧ arr w 23 = s.1 ∧ arr w 24 = s.2.1 ∧ arr w 26 = s.2.2.1 ∧ arr w 27 = s.2.2.2.1 ∧ fld w 17 5 = s.2.2.2.2
abbrev sX (w0 : mW) (nw : Nat) (a b : Int32) (s : S5) : Option S5 := sSt (fld w0 18 0) (fld w0 18 1) nw (arr w0 19) (arr w0 20) (arr w0 21) (arr w0 22) (arr w0 25) a b s
def sPost (st : Option S5) (T : S5 → mW → Prop) (s : S5) : Option Value → mW → Prop := fun r w' => ∃ c : Int32, r = some (.int c) ∧ ((c = 0 ∧ st = none ∧ T s w') ∨ (c = 1 ∧ ∃ s', st = some s' ∧ T s' w'))
theorem gP.w {NB NW a b : Int32} (h : gP NB NW a b) (h8 : ¬ b = 8) : (b = 9 ∨ (0 ≤ b ∧ b < NB)) ∧ 0 ≤ a ∧ a < NW := h.elim (fun z => absurd z.1 h8) (fun z => z.2)
theorem gP.n {NB NW a b : Int32} (h : gP NB NW a b) (h8 : b = 8) : ∃ N : Nat, N ≤ 9 ∧ a = nI N := by
  rcases h with z | z
  · exact nI_of2 (M := 9) (n := 9) rfl (Int32.not_lt.mpr z.2.1) z.2.2
  · exact absurd h8 z.1
abbrev xT (w0 w : mW) : S5 → mW → Prop := fun s' w' => xS w0 s' w' ∧ fld w' 17 4 = fld w 17 4
theorem canDo_9 {w0 w w1 : mW} {s : S5} {nw : Nat} {a b : Int32} (hX : xS w0 s w) (hb : b = 9) (ha : 0 ≤ a ∧ a < fld w0 18 1) (hq : w1 = if ((0 ≤ a ∧ a < fld w 18 1) ∧ 0 ≤ arr w 26 a.toNatClampNeg ∧ arr w 26 a.toNatClampNeg < fld w 18 0) then setA w 26 (upd (arr w 26) a.toNatClampNeg (-9)) else w) : sPost (sX w0 nw a b s) (xT w0 w) s (some (.int (b2 ((0 ≤ a ∧ a < fld w 18 1) ∧ 0 ≤ arr w 26 a.toNatClampNeg ∧ arr w 26 a.toNatClampNeg < fld w 18 0)))) w1 := by
  obtain ⟨hS, g, x23, x24, x26, x27, xp⟩ := id hX
  refine ⟨_, rfl, ?_⟩
  rw [g.2 18 0 (by decide), g.2 18 1 (by decide), x26] at hq ⊢
  by_cases h : inB (fld w0 18 0) s.2.2.1 a.toNatClampNeg
  · have hp : (0 ≤ a ∧ a < fld w0 18 1) ∧ 0 ≤ s.2.2.1 a.toNatClampNeg ∧ s.2.2.1 a.toNatClampNeg < fld w0 18 0 := ⟨ha, h⟩
    rw [if_pos hp] at hq
    refine Or.inr ⟨b2_t hp, (s.1, s.2.1, upd s.2.2.1 a.toNatClampNeg (-9), s.2.2.2.1, s.2.2.2.2), by unfold sX sSt; rw [if_pos hb, if_pos h], ?_⟩
    rw [hq]
    exact ⟨⟨hS.stA _ _, g.stA (by decide) _, by rw [arr_setA_a (by decide)]; exact x23, by rw [arr_setA_a (by decide)]; exact x24, by rw [arr_setA hS rfl], by rw [arr_setA_a (by decide)]; exact x27, by rw [fld_setA]; exact xp⟩, by rw [fld_setA]⟩
  · have hp : ¬ ((0 ≤ a ∧ a < fld w0 18 1) ∧ 0 ≤ s.2.2.1 a.toNatClampNeg ∧ s.2.2.1 a.toNatClampNeg < fld w0 18 0) := fun z => h z.2
    rw [if_neg hp] at hq
    subst hq
    exact Or.inl ⟨b2_f hp, by unfold sX sSt; rw [if_pos hb, if_neg h], hX, rfl⟩
theorem canDo_e {w0 w w1 : mW} {s : S5} {nw : Nat} {a b : Int32} (hX : xS w0 s w) (h9 : ¬ b = 9) (h8 : ¬ b = 8) (hq : w1 = if canE (fld w 18 0) (fld w 18 1) nw (arr w 19) (arr w 20) (arr w 21) (arr w 22) (arr w 23) (arr w 24) (arr w 25) (arr w 26) a b then setA (setA w 26 (upd (arr w 26) a.toNatClampNeg b)) 24 (upd (arr w 24) a.toNatClampNeg (arr w 22 b.toNatClampNeg)) else w) : sPost (sX w0 nw a b s) (xT w0 w) s (some (.int (b2 (canE (fld w 18 0) (fld w 18 1) nw (arr w 19) (arr w 20) (arr w 21) (arr w 22) (arr w 23) (arr w 24) (arr w 25) (arr w 26) a b)))) w1 := by
  obtain ⟨hS, g, x23, x24, x26, x27, xp⟩ := id hX
  refine ⟨_, rfl, ?_⟩
  rw [g.2 18 0 (by decide), g.2 18 1 (by decide), g.1 19 (by decide), g.1 20 (by decide), g.1 21 (by decide), g.1 22 (by decide), g.1 25 (by decide), x23, x24, x26] at hq ⊢
  by_cases h : canE (fld w0 18 0) (fld w0 18 1) nw (arr w0 19) (arr w0 20) (arr w0 21) (arr w0 22) s.1 s.2.1 (arr w0 25) s.2.2.1 a b
  · rw [if_pos h] at hq
    refine Or.inr ⟨b2_t h, (s.1, upd s.2.1 a.toNatClampNeg (arr w0 22 b.toNatClampNeg), upd s.2.2.1 a.toNatClampNeg b, s.2.2.2.1, s.2.2.2.2), by unfold sX sSt; rw [if_neg h9, if_neg h8, if_pos h], ?_⟩
    rw [hq]
    exact ⟨⟨(hS.stA _ _).stA _ _, (g.stA (by decide) _).stA (by decide) _, by rw [arr_setA_a (by decide), arr_setA_a (by decide)]; exact x23, by rw [arr_setA (hS.stA _ _) rfl], by rw [arr_setA_a (by decide), arr_setA hS rfl], by rw [arr_setA_a (by decide), arr_setA_a (by decide)]; exact x27, by rw [fld_setA, fld_setA]; exact xp⟩, by rw [fld_setA, fld_setA]⟩
  · rw [if_neg h] at hq
    subst hq
    exact Or.inl ⟨b2_f h, by unfold sX sSt; rw [if_neg h9, if_neg h8, if_neg h], hX, rfl⟩
theorem noInt12b (k : Nat) : ¬ ([none, none, none, some 19, some 20, some 21, some 22, some 23, some 24, some 25, some 26, some 27] : List (Option Nat))[k + 3]? = some none := by
  match k with
  | 0 | 1 | 2 | 3 | 4 | 5 | 6 | 7 | 8 => simp
  | k + 9 => simp
theorem canDo_8 {w0 w w1 : mW} {s : S5} {nw N : Nat} {b : Int32} (hX : xS w0 s w) (hN : N ≤ 9) (h8 : b = 8) (hA : NsAt (fld w 18 0) nw 18 21 23 26 27 w N w1) (q0 : fld w1 18 0 = fld w 18 0) (q1 : fld w1 18 1 = fld w 18 1) : sPost (sX w0 nw (nI N) b s) (xT w0 w) s (some (.int 1)) (setF w1 17 5 (fld w 17 5 + nI (nOut (fld w 18 0) (arr w 21) nw N (arr w 23, arr w 26, arr w 27)))) := by
  obtain ⟨hS, g, x23, x24, x26, x27, xp⟩ := id hX
  have hS1 := hA.1
  have g1 : Gr [23, 26, 27] [(18, 2)] w w1 := hA.2.1.gr2 hS hS1 (by intro a ha; simp at ha; rcases ha with h | h | h <;> subst h <;> exact ⟨_, rfl⟩) rfl (by
    intro k hk hn
    match k, hk, hn with
    | 0, _, _ => exact q0
    | 1, _, _ => exact q1
    | 2, _, hn => exact absurd (by decide) hn
    | k + 3, hk, _ => exact absurd hk (noInt12b k))
  have h3 := hA.2.2
  rw [g.2 18 0 (by decide), g.1 21 (by decide), x23, x26, x27] at h3 ⊢
  refine ⟨1, rfl, Or.inr ⟨rfl, ((nSt (fld w0 18 0) (arr w0 21) nw N (s.1, s.2.2.1, s.2.2.2.1)).1, s.2.1, (nSt (fld w0 18 0) (arr w0 21) nw N (s.1, s.2.2.1, s.2.2.2.1)).2.1, (nSt (fld w0 18 0) (arr w0 21) nw N (s.1, s.2.2.1, s.2.2.2.1)).2.2, s.2.2.2.2 + nI (nOut (fld w0 18 0) (arr w0 21) nw N (s.1, s.2.2.1, s.2.2.2.1))), ?_, ?_, ?_⟩⟩
  · unfold sX sSt
    rw [if_neg (by rw [h8]; decide), if_pos h8, nI_clamp (by omega)]
  · refine ⟨hS1.stF rfl rfl _, (g.tr (g1.up (by decide) (by decide))).stF (by decide) _, ?_, ?_, ?_, ?_, ?_⟩
    · rw [arr_setF, ← h3]
    · rw [arr_setF, g1.1 24 (by decide)]; exact x24
    · rw [arr_setF, ← h3]
    · rw [arr_setF, ← h3]
    · rw [fld_setF hS1 rfl rfl, xp]
  · rw [fld_setF_k (by decide), g1.2 17 4 (by decide)]
theorem c_X4_canDo {d : Nat} {w0 w : mW} {s : S5} {nb nw : Nat} {a b : Int32} (hX : xS w0 s w) (tb : (fld w0 18 0).toInt = (nb : Int)) (hnb : nb ≤ 5) (tw : (fld w0 18 1).toInt = (nw : Int)) (hnw : nw ≤ 5) (hg : gP (fld w0 18 0) (fld w0 18 1) a b) : mC (d + 4) kX4_canDo [.ref 17, .int a, .int b] w (sPost (sX w0 nw a b s) (xT w0 w) s) := by
  have hS := hX.1
  have tb' : (fld w 18 0).toInt = (nb : Int) := by rw [hX.2.1.2 18 0 (by decide)]; exact tb
  have tw' : (fld w 18 1).toInt = (nw : Int) := by rw [hX.2.1.2 18 1 (by decide)]; exact tw
  refine mC.of (L := [_, _, _]) okX4_canDo 0 rfl rfl ?_
  refine x_iload_n (pc := 0) (i := 2) dX4_canDo_0 rfl rfl ?_
  refine x_bipush (pc := 1) (v := 9) dX4_canDo_1 (by decide) ?_
  refine x_icmp_ne (pc := 3) (tgt := 15) dX4_canDo_3 (by decide) (fun h3 => ?_) (fun h3 => ?_)
  · refine x_iload_n (pc := 15) (i := 2) dX4_canDo_15 rfl rfl ?_
    refine x_bipush (pc := 16) (v := 8) dX4_canDo_16 (by decide) ?_
    refine x_icmp_eq (pc := 18) (tgt := 31) dX4_canDo_18 (by decide) (fun h18 => ?_) (fun h18 => ?_)
    · obtain ⟨N, hN, rfl⟩ := hg.n h18
      refine x_aload_n (pc := 31) (i := 0) dX4_canDo_31 rfl rfl ?_
      refine x_dup (pc := 32) dX4_canDo_32 rfl ?_
      refine x_getI (pc := 33) hS fX4_60 dX4_canDo_33 rfl rfl ?_
      refine x_aload_n (pc := 36) (i := 0) dX4_canDo_36 rfl rfl ?_
      refine x_getR (pc := 37) hS fX4_12 dX4_canDo_37 rfl rfl ?_
      refine x_iload_n (pc := 40) (i := 1) dX4_canDo_40 rfl rfl ?_
      refine x_vs (pc := 41) (As := [_]) rfl hS lX4_73 dX4_canDo_41 rfl rfl (Nat.le_of_ble_eq_true rfl) (c_X0_passNights_18 hS tb' hnb tw' hnw (by omega)) ?_
      rintro _ w1 ⟨rfl, hA, q0, q1, q2⟩
      have hS := hA.1
      refine x_pushI ?_
      refine x_iadd (pc := 44) dX4_canDo_44 ?_
      refine x_putI (pc := 45) hS fX4_60 dX4_canDo_45 rfl rfl rfl rfl (fun hS => ?_)
      refine x_iconst (pc := 48) (v := 1) dX4_canDo_48 (by decide) ?_
      refine x_ri (pc := 49) dX4_canDo_49 rfl rfl ?_
      exact canDo_8 hX hN h18 hA q0 q1
    · refine x_aload_n (pc := 21) (i := 0) dX4_canDo_21 rfl rfl ?_
      refine x_getR (pc := 22) hS fX4_12 dX4_canDo_22 rfl rfl ?_
      refine x_iload_n (pc := 25) (i := 1) dX4_canDo_25 rfl rfl ?_
      refine x_iload_n (pc := 26) (i := 2) dX4_canDo_26 rfl rfl ?_
      refine x_vs (pc := 27) (As := [_, _]) rfl hS lX4_70 dX4_canDo_27 rfl rfl (Nat.le_of_ble_eq_true rfl) (c_X0_enter_18 hS tb' hnb tw' hnw) ?_
      rintro _ w1 ⟨rfl, hq⟩
      refine x_pushI ?_
      refine x_ri (pc := 30) dX4_canDo_30 rfl nar_b2 ?_
      exact canDo_e hX h3 h18 hq
  · refine x_aload_n (pc := 6) (i := 0) dX4_canDo_6 rfl rfl ?_
    refine x_getR (pc := 7) hS fX4_12 dX4_canDo_7 rfl rfl ?_
    refine x_iload_n (pc := 10) (i := 1) dX4_canDo_10 rfl rfl ?_
    refine x_vs (pc := 11) (As := [_]) rfl hS lX4_67 dX4_canDo_11 rfl rfl (Nat.le_of_ble_eq_true rfl) (c_X0_goOut_18 hS tb' hnb tw' hnw) ?_
    rintro _ w1 ⟨rfl, hq⟩
    refine x_pushI ?_
    refine x_ri (pc := 14) dX4_canDo_14 rfl nar_b2 ?_
    exact canDo_9 hX h3 (hg.w (by rw [h3]; decide)).2 hq
theorem sPost.S {w0 w w' : mW} {st : Option S5} {s : S5} {c : Int32} (h : (c = 0 ∧ st = none ∧ xT w0 w s w') ∨ (c = 1 ∧ ∃ s', st = some s' ∧ xT w0 w s' w')) : Shape w' := by
  rcases h with z | ⟨-, s', -, z⟩
  · exact z.2.2.1.1
  · exact z.1.1
theorem xS.fw {w0 w : mW} {s : S5} (h : xS w0 s w) (x : Int32) : xS w0 s (setF w 17 4 x) := by
  obtain ⟨hS, g, x23, x24, x26, x27, xp⟩ := h
  exact ⟨hS.stF rfl rfl _, g.stF (by decide) _, by rw [arr_setF]; exact x23, by rw [arr_setF]; exact x24, by rw [arr_setF]; exact x26, by rw [arr_setF]; exact x27, by rw [fld_setF_k (by decide)]; exact xp⟩
abbrev pG (w : mW) (nw k : Nat) : Option Nat × S5 := sGo (fun t s => sX w nw (arr w 28 t) (arr w 29 t) s) k (arr w 23, arr w 24, arr w 26, arr w 27, 0)
theorem c_X4_play {d : Nat} {w : mW} {n nb nw : Nat} (hS0 : Shape w) (tb : (fld w 18 0).toInt = (nb : Int)) (hnb : nb ≤ 5) (tw : (fld w 18 1).toInt = (nw : Int)) (hnw : nw ≤ 5) (hn : n ≤ 20) (hac : fld w 17 3 = nI n) (hg : ∀ t, t < n → gP (fld w 18 0) (fld w 18 1) (arr w 28 t) (arr w 29 t)) : mC (d + 5) kX4_play [.ref 17] w (fun r w' => r = none ∧ xS w (pG w nw n).2 w' ∧ fld w' 17 4 = fwE (pG w nw n).1) := by
  have tn : (nI n).toInt = (n : Int) := nI_toInt (by omega)
  have lpw : ∀ (k t : Nat) (s1 : S5) (w1 : mW), k ≤ n → t < n → pG w nw n = (some t, s1) → xS w s1 w1 → fld w1 17 4 = nI t → mJ mX0 (d + 5) kX4_play (fun r w' => r = none ∧ xS w (pG w nw n).2 w' ∧ fld w' 17 4 = fwE (pG w nw n).1) 13 [.ref 17, .int (nI k)] [] w1 := by
    intro k t s1 w1 hk ht hG hX hfw
    have hS := hX.1
    have tk : (nI k).toInt = (k : Int) := nI_toInt (by omega)
    refine x_iload_n (pc := 13) (i := 1) dX4_play_13 rfl rfl ?_
    refine x_aload_n (pc := 14) (i := 0) dX4_play_14 rfl rfl ?_
    refine x_getI (pc := 15) hS fX4_38 dX4_play_15 rfl rfl ?_
    rw [hX.2.1.2 17 3 (by decide), hac]
    refine x_icmp_ge (pc := 18) (tgt := 60) dX4_play_18 (by decide) (fun h18 => ?_) (fun h18 => ?_)
    · refine x_rv (pc := 60) dX4_play_60 rfl ?_
      rw [hG]; exact ⟨rfl, hX, hfw⟩
    · refine x_aload_n (pc := 21) (i := 0) dX4_play_21 rfl rfl ?_
      refine x_getI (pc := 22) hS fX4_57 dX4_play_22 rfl rfl ?_
      refine x_bipush (pc := 25) (v := (-9)) dX4_play_25 (by decide) ?_
      rw [hfw]
      refine x_icmp_ne (pc := 27) (tgt := 60) dX4_play_27 (by decide) (fun h27 => ?_) (fun h27 => absurd h27 (by exact nI_n9' (by omega)))
      refine x_rv (pc := 60) dX4_play_60 rfl ?_
      rw [hG]; exact ⟨rfl, hX, hfw⟩
  have lp : ∀ (m k : Nat) (s1 : S5) (w1 : mW), k ≤ n → n < k + m → pG w nw k = (none, s1) → xS w s1 w1 → fld w1 17 4 = -9 → mJ mX0 (d + 5) kX4_play (fun r w' => r = none ∧ xS w (pG w nw n).2 w' ∧ fld w' 17 4 = fwE (pG w nw n).1) 13 [.ref 17, .int (nI k)] [] w1 := by
    intro m
    induction m with
    | zero => intro k s1 w1 h1 h2; omega
    | succ m ih =>
      intro k s1 w1 hk1 hk2 hG hX hfw
      have hS := hX.1
      have tk : (nI k).toInt = (k : Int) := nI_toInt (by omega)
      refine x_iload_n (pc := 13) (i := 1) dX4_play_13 rfl rfl ?_
      refine x_aload_n (pc := 14) (i := 0) dX4_play_14 rfl rfl ?_
      refine x_getI (pc := 15) hS fX4_38 dX4_play_15 rfl rfl ?_
      rw [hX.2.1.2 17 3 (by decide), hac]
      refine x_icmp_ge (pc := 18) (tgt := 60) dX4_play_18 (by decide) (fun h18 => ?_) (fun h18 => ?_)
      · refine x_rv (pc := 60) dX4_play_60 rfl ?_
        have e := show k = n by (try simp only [b2_e0, b2_n0, Decidable.not_not] at *) <;> (try simp only [i_lt, i_le, i_eq, not_and, not_or, ne_eq, il_0, il_1, il_2, il_3, il_4, il_5, il_6, il_7, il_8, il_9, il_10, il_14, il_15, il_19, il_20, il_24, il_30, il_31, il_44, il_48, il_49, il_52, il_57, il_59, il_60, il_70, il_99, il_100, il_103, il_108, il_114, il_m1, il_m2, il_m3, il_m4, il_m9, il_m10, il_m100] at *) <;> omega
        subst e
        rw [hG]
        exact ⟨rfl, hX, hfw⟩
      · have hkn : k < n := by (try simp only [b2_e0, b2_n0, Decidable.not_not] at *) <;> (try simp only [i_lt, i_le, i_eq, not_and, not_or, ne_eq, il_0, il_1, il_2, il_3, il_4, il_5, il_6, il_7, il_8, il_9, il_10, il_14, il_15, il_19, il_20, il_24, il_30, il_31, il_44, il_48, il_49, il_52, il_57, il_59, il_60, il_70, il_99, il_100, il_103, il_108, il_114, il_m1, il_m2, il_m3, il_m4, il_m9, il_m10, il_m100] at *) <;> omega
        refine x_aload_n (pc := 21) (i := 0) dX4_play_21 rfl rfl ?_
        refine x_getI (pc := 22) hS fX4_57 dX4_play_22 rfl rfl ?_
        refine x_bipush (pc := 25) (v := (-9)) dX4_play_25 (by decide) ?_
        rw [hfw]
        refine x_icmp_ne (pc := 27) (tgt := 60) dX4_play_27 (by decide) (fun h27 => absurd h27 (by exact not_not_intro rfl)) (fun h27 => ?_)
        refine x_aload_n (pc := 30) (i := 0) dX4_play_30 rfl rfl ?_
        refine x_aload_n (pc := 31) (i := 0) dX4_play_31 rfl rfl ?_
        refine x_getR (pc := 32) hS fX4_18 dX4_play_32 rfl rfl ?_
        refine x_iload_n (pc := 35) (i := 1) dX4_play_35 rfl rfl ?_
        refine x_aldN (pc := 36) hS dX4_play_36 rfl (by omega) (by decide) ?_
        rw [hX.2.1.1 28 (by decide)]
        refine x_aload_n (pc := 37) (i := 0) dX4_play_37 rfl rfl ?_
        refine x_getR (pc := 38) hS fX4_22 dX4_play_38 rfl rfl ?_
        refine x_iload_n (pc := 41) (i := 1) dX4_play_41 rfl rfl ?_
        refine x_aldN (pc := 42) hS dX4_play_42 rfl (by omega) (by decide) ?_
        rw [hX.2.1.1 29 (by decide)]
        refine x_vs (pc := 43) (As := [_, _]) rfl hS lX4_63 dX4_play_43 rfl rfl (Nat.le_of_ble_eq_true rfl) (c_X4_canDo hX tb hnb tw hnw (hg k hkn)) ?_
        rintro _ w2 ⟨c, rfl, hr⟩
        have hS := sPost.S hr
        refine x_pushI ?_
        refine x_if_ne (pc := 46) (tgt := 54) dX4_play_46 (by decide) (fun h46 => ?_) (fun h46 => ?_)
        · refine x_iinc (pc := 54) (L' := [_, _]) dX4_play_54 (by decide) rfl (by first | exact nI_inc _ | rfl) rfl ?_
          refine x_goto (pc := 57) (tgt := 13) dX4_play_57 (by decide) ?_
          first | (have z9 : ¬ c = 0 := h46; rcases hr with z | ⟨-, s2, e2, hX2, f2⟩; exact absurd z.1 z9; exact ih (k + 1) s2 w2 (by omega) (by omega) (sGo_yes hG e2) hX2 (by rw [f2]; exact hfw)) | (have z9 : c = 0 := h46; rcases hr with ⟨-, e2, hX2, f2⟩ | z; exact lpw (k + 1) k s1 _ (by omega) hkn (sGo_no hG e2 hkn) (hX2.fw _) (fld_setF hX2.1 rfl rfl _); rw [z9] at z; exact absurd z.1 (by decide))
        · refine x_aload_n (pc := 49) (i := 0) dX4_play_49 rfl rfl ?_
          refine x_iload_n (pc := 50) (i := 1) dX4_play_50 rfl rfl ?_
          refine x_putI (pc := 51) hS fX4_57 dX4_play_51 rfl rfl rfl rfl (fun hS => ?_)
          refine x_iinc (pc := 54) (L' := [_, _]) dX4_play_54 (by decide) rfl (by first | exact nI_inc _ | rfl) rfl ?_
          refine x_goto (pc := 57) (tgt := 13) dX4_play_57 (by decide) ?_
          first | (have z9 : ¬ c = 0 := h46; rcases hr with z | ⟨-, s2, e2, hX2, f2⟩; exact absurd z.1 z9; exact ih (k + 1) s2 w2 (by omega) (by omega) (sGo_yes hG e2) hX2 (by rw [f2]; exact hfw)) | (have z9 : c = 0 := h46; rcases hr with ⟨-, e2, hX2, f2⟩ | z; exact lpw (k + 1) k s1 _ (by omega) hkn (sGo_no hG e2 hkn) (hX2.fw _) (fld_setF hX2.1 rfl rfl _); rw [z9] at z; exact absurd z.1 (by decide))
  have hS := hS0
  have hX0 : xS w (arr w 23, arr w 24, arr w 26, arr w 27, 0) (setF (setF w 17 4 (-9)) 17 5 0) := ⟨(hS0.stF rfl rfl _).stF rfl rfl _, (Gr.rf.stF (by decide) _).stF (by decide) _, by rw [arr_setF, arr_setF], by rw [arr_setF, arr_setF], by rw [arr_setF, arr_setF], by rw [arr_setF, arr_setF], by rw [fld_setF (hS0.stF rfl rfl _) rfl rfl]⟩
  refine mC.of (L := [_, _]) okX4_play 1 rfl rfl ?_
  refine x_aload_n (pc := 0) (i := 0) dX4_play_0 rfl rfl ?_
  refine x_bipush (pc := 1) (v := (-9)) dX4_play_1 (by decide) ?_
  refine x_putI (pc := 3) hS fX4_57 dX4_play_3 rfl rfl rfl rfl (fun hS => ?_)
  refine x_aload_n (pc := 6) (i := 0) dX4_play_6 rfl rfl ?_
  refine x_iconst (pc := 7) (v := 0) dX4_play_7 (by decide) ?_
  refine x_putI (pc := 8) hS fX4_60 dX4_play_8 rfl rfl rfl rfl (fun hS => ?_)
  refine x_iconst (pc := 11) (v := 0) dX4_play_11 (by decide) ?_
  refine x_istore_n (pc := 12) (i := 1) (L' := [_, _]) dX4_play_12 rfl (by decide) rfl ?_
  exact lp (n + 1) 0 _ _ (by omega) (by omega) rfl hX0 (by rw [fld_setF_k (by decide), fld_setF hS0 rfl rfl])
def ansX (fw NB NW : Int32) (nw : Nat) (x : Int32) (s : S5) : Int32 := if x = 1 then fw else if fw = -9 then (if x = 0 then nI (bitsN (inP s.2.2.1 NB) nw) else if x = 2 then s.2.2.2.2 else if x = 3 then sumN s.1 nw else if 0 ≤ x - x / 10 * 10 ∧ x - x / 10 * 10 < NW then (if x < 20 then s.2.2.1 (x - x / 10 * 10).toNatClampNeg else s.2.2.2.1 (x - x / 10 * 10).toNatClampNeg) else -9) else -100 - fw
theorem c_X4_answerTo {d : Nat} {w0 w : mW} {s : S5} {nb nw : Nat} {x : Int32} (hX : xS w0 s w) (tw : (fld w0 18 1).toInt = (nw : Int)) (hnw : nw ≤ 5) : mC (d + 2) kX4_answerTo [.ref 17, .int x] w (fun r w' => r = some (.int (ansX (fld w 17 4) (fld w0 18 0) (fld w0 18 1) nw x s)) ∧ w' = w) := by
  obtain ⟨hS, g, x23, x24, x26, x27, xp⟩ := id hX
  have tw' : (fld w 18 1).toInt = (nw : Int) := by rw [g.2 18 1 (by decide)]; exact tw
  unfold ansX
  refine mC.of (L := [_, _, _]) okX4_answerTo 1 rfl rfl ?_
  refine x_iload_n (pc := 0) (i := 1) dX4_answerTo_0 rfl rfl ?_
  refine x_iconst (pc := 1) (v := 1) dX4_answerTo_1 (by decide) ?_
  refine x_icmp_ne (pc := 2) (tgt := 10) dX4_answerTo_2 (by decide) (fun h2 => ?_) (fun h2 => ?_)
  · refine x_aload_n (pc := 10) (i := 0) dX4_answerTo_10 rfl rfl ?_
    refine x_getI (pc := 11) hS fX4_57 dX4_answerTo_11 rfl rfl ?_
    refine x_bipush (pc := 14) (v := (-9)) dX4_answerTo_14 (by decide) ?_
    refine x_icmp_eq (pc := 16) (tgt := 27) dX4_answerTo_16 (by decide) (fun h16 => ?_) (fun h16 => ?_)
    · refine x_iload_n (pc := 27) (i := 1) dX4_answerTo_27 rfl rfl ?_
      refine x_if_ne (pc := 28) (tgt := 39) dX4_answerTo_28 (by decide) (fun h28 => ?_) (fun h28 => ?_)
      · refine x_iload_n (pc := 39) (i := 1) dX4_answerTo_39 rfl rfl ?_
        refine x_iconst (pc := 40) (v := 2) dX4_answerTo_40 (by decide) ?_
        refine x_icmp_ne (pc := 41) (tgt := 49) dX4_answerTo_41 (by decide) (fun h41 => ?_) (fun h41 => ?_)
        · refine x_iload_n (pc := 49) (i := 1) dX4_answerTo_49 rfl rfl ?_
          refine x_iconst (pc := 50) (v := 3) dX4_answerTo_50 (by decide) ?_
          refine x_icmp_ne (pc := 51) (tgt := 62) dX4_answerTo_51 (by decide) (fun h51 => ?_) (fun h51 => ?_)
          · refine x_iload_n (pc := 62) (i := 1) dX4_answerTo_62 rfl rfl ?_
            refine x_bipush (pc := 63) (v := 10) dX4_answerTo_63 (by decide) ?_
            refine x_irem (pc := 65) dX4_answerTo_65 (by decide) ?_
            refine x_istore_n (pc := 66) (i := 2) (L' := [_, _, _]) dX4_answerTo_66 rfl (by decide) rfl ?_
            refine x_aload_n (pc := 67) (i := 0) dX4_answerTo_67 rfl rfl ?_
            refine x_getR (pc := 68) hS fX4_12 dX4_answerTo_68 rfl rfl ?_
            refine x_iload_n (pc := 71) (i := 2) dX4_answerTo_71 rfl rfl ?_
            refine x_vs (pc := 72) (As := [_]) rfl hS lX4_54 dX4_answerTo_72 rfl rfl (Nat.le_of_ble_eq_true rfl) (c_X0_hasWalker_18 hS) ?_
            rintro _ _ ⟨rfl, hq⟩
            obtain rfl := hq.symm
            refine x_pushI ?_
            rw [g.2 18 1 (by decide)]
            refine x_if_ne (pc := 75) (tgt := 81) dX4_answerTo_75 (by decide) (fun h75 => ?_) (fun h75 => ?_)
            · obtain ⟨j, hj, ej⟩ := in_nI tw (by omega) (b2_n0.mp h75)
              rw [if_neg h2, if_pos h16, if_neg h28, if_neg h41, if_neg h51, if_pos (b2_n0.mp h75), ej, nI_clamp (by omega)]
              refine x_iload_n (pc := 81) (i := 1) dX4_answerTo_81 rfl rfl ?_
              refine x_bipush (pc := 82) (v := 20) dX4_answerTo_82 (by decide) ?_
              refine x_icmp_ge (pc := 84) (tgt := 99) dX4_answerTo_84 (by decide) (fun h84 => ?_) (fun h84 => ?_)
              · refine x_aload_n (pc := 99) (i := 0) dX4_answerTo_99 rfl rfl ?_
                refine x_getR (pc := 100) hS fX4_12 dX4_answerTo_100 rfl rfl ?_
                refine x_getR (pc := 103) hS fX4_87 dX4_answerTo_103 rfl rfl ?_
                refine x_iload_n (pc := 106) (i := 2) dX4_answerTo_106 rfl rfl ?_
                refine x_aldN (pc := 107) hS dX4_answerTo_107 rfl (by omega) (by decide) ?_
                first | (rw [x27]; done) | rw [x27] | skip
                refine x_ri (pc := 108) dX4_answerTo_108 rfl rfl ?_
                refine ⟨?_, rfl⟩
                first | (have z9 : 20 ≤ x := h84; rw [if_neg (Int32.not_lt.mpr z9)]) | (have z9 : ¬ 20 ≤ x := h84; rw [if_pos (Int32.not_le.mp z9)])
              · refine x_aload_n (pc := 87) (i := 0) dX4_answerTo_87 rfl rfl ?_
                refine x_getR (pc := 88) hS fX4_12 dX4_answerTo_88 rfl rfl ?_
                refine x_getR (pc := 91) hS fX4_84 dX4_answerTo_91 rfl rfl ?_
                refine x_iload_n (pc := 94) (i := 2) dX4_answerTo_94 rfl rfl ?_
                refine x_aldN (pc := 95) hS dX4_answerTo_95 rfl (by omega) (by decide) ?_
                rw [x26]
                refine x_goto (pc := 96) (tgt := 108) dX4_answerTo_96 (by decide) ?_
                first | (rw [x27]; done) | rw [x27] | skip
                refine x_ri (pc := 108) dX4_answerTo_108 rfl rfl ?_
                refine ⟨?_, rfl⟩
                first | (have z9 : 20 ≤ x := h84; rw [if_neg (Int32.not_lt.mpr z9)]) | (have z9 : ¬ 20 ≤ x := h84; rw [if_pos (Int32.not_le.mp z9)])
            · refine x_bipush (pc := 78) (v := (-9)) dX4_answerTo_78 (by decide) ?_
              refine x_ri (pc := 80) dX4_answerTo_80 rfl rfl ?_
              exact ⟨by rw [if_neg h2, if_pos h16, if_neg h28, if_neg h41, if_neg h51, if_neg (b2_e0.mp h75)], rfl⟩
          · refine x_aload_n (pc := 54) (i := 0) dX4_answerTo_54 rfl rfl ?_
            refine x_getR (pc := 55) hS fX4_12 dX4_answerTo_55 rfl rfl ?_
            refine x_vs (pc := 58) (As := []) rfl hS lX4_81 dX4_answerTo_58 rfl rfl (Nat.le_of_ble_eq_true rfl) (c_X0_meansOfAll hS tw' hnw) ?_
            rintro _ _ ⟨rfl, hq⟩
            obtain rfl := hq.symm
            refine x_pushI ?_
            rw [x23]
            refine x_ri (pc := 61) dX4_answerTo_61 rfl rfl ?_
            exact ⟨by rw [if_neg h2, if_pos h16, if_neg h28, if_neg h41, if_pos h51], rfl⟩
        · refine x_aload_n (pc := 44) (i := 0) dX4_answerTo_44 rfl rfl ?_
          refine x_getI (pc := 45) hS fX4_60 dX4_answerTo_45 rfl rfl ?_
          rw [xp]
          refine x_ri (pc := 48) dX4_answerTo_48 rfl rfl ?_
          exact ⟨by rw [if_neg h2, if_pos h16, if_neg h28, if_pos h41], rfl⟩
      · refine x_aload_n (pc := 31) (i := 0) dX4_answerTo_31 rfl rfl ?_
        refine x_getR (pc := 32) hS fX4_12 dX4_answerTo_32 rfl rfl ?_
        refine x_vs (pc := 35) (As := []) rfl hS lX4_77 dX4_answerTo_35 rfl rfl (Nat.le_of_ble_eq_true rfl) (c_X0_allLodgers_18 hS tw' hnw) ?_
        rintro _ _ ⟨rfl, hq⟩
        obtain rfl := hq.symm
        refine x_pushI ?_
        rw [x26, g.2 18 0 (by decide)]
        refine x_ri (pc := 38) dX4_answerTo_38 rfl rfl ?_
        exact ⟨by rw [if_neg h2, if_pos h16, if_pos h28], rfl⟩
    · refine x_bipush (pc := 19) (v := (-100)) dX4_answerTo_19 (by decide) ?_
      refine x_aload_n (pc := 21) (i := 0) dX4_answerTo_21 rfl rfl ?_
      refine x_getI (pc := 22) hS fX4_57 dX4_answerTo_22 rfl rfl ?_
      refine x_isub (pc := 25) dX4_answerTo_25 ?_
      refine x_ri (pc := 26) dX4_answerTo_26 rfl rfl ?_
      exact ⟨by rw [if_neg h2, if_neg h16], rfl⟩
  · refine x_aload_n (pc := 5) (i := 0) dX4_answerTo_5 rfl rfl ?_
    refine x_getI (pc := 6) hS fX4_57 dX4_answerTo_6 rfl rfl ?_
    refine x_ri (pc := 9) dX4_answerTo_9 rfl rfl ?_
    exact ⟨by rw [if_pos h2], rfl⟩
abbrev cC (w : mW) (s i0 j : Nat) : Int32 := arr w 4 (60 * s + (i0 + j))
abbrev rfF (w : mW) (s i0 : Nat) : Nat → Int32 := fun t => refE (fld w 7 0) (fld w 7 1) (cC w s i0 (2 * t)) (cC w s i0 (2 * t + 1))
def ldOK (w : mW) (nb nw n s i0 : Nat) (w' : mW) : Prop := fld w' 17 3 = nI n ∧ fld w' 18 0 = fld w 7 0 ∧ fld w' 18 1 = fld w 7 1 ∧ (∀ a, a < 9 → ∀ j, j < (if a < 4 then nb else nw) → arr w' (19 + a) j = arr w (8 + a) j) ∧ ∀ t, t < n → arr w' 28 t = cC w s i0 (2 * t) ∧ arr w' 29 t = cC w s i0 (2 * t + 1)
abbrev ldA : List Nat := [19, 20, 21, 22, 23, 24, 25, 26, 27, 28, 29]
abbrev ldF : List (Nat × Nat) := [(17, 3), (18, 0), (18, 1), (18, 2)]
abbrev ldX (w : mW) (s i0 a t : Nat) : Int32 := if a = 0 then cC w s i0 (2 * t) else cC w s i0 (2 * t + 1)
abbrev ldD (a : Nat) : Nat := 28 + a
theorem ldD_ne {D : Nat} (a : Nat) (h : 28 + a = D) : ∀ b, b < 2 → b ≠ a → ldD b ≠ D := by intro b _ h2; unfold ldD; omega
set_option maxHeartbeats 2000000 in
theorem c_X4_load {d : Nat} {w : mW} {s i0 n N nb nw : Nat} (hS0 : Shape w) (tb : (fld w 7 0).toInt = (nb : Int)) (hnb : nb ≤ 5) (tw : (fld w 7 1).toInt = (nw : Int)) (hnw : nw ≤ 5) (hs : s < 4) (hsz : arr w 3 s = nI N) (hN : N ≤ 60) (hi : i0 + 2 * n ≤ N) (hn : n ≤ 20) : mC (d + 4) kX4_load [.ref 17, .ref 7, .ref 1, .int (nI s), .int (nI i0), .int (nI n)] w (fun r w' => r = some (.int (rfN (rfF w s i0) n)) ∧ Shape w' ∧ Gr ldA ldF w w' ∧ (rfN (rfF w s i0) n = 0 → ldOK w nb nw n s i0 w')) := by
  have tn : (nI n).toInt = (n : Int) := nI_toInt (by omega)
  have lp : ∀ w1 : mW, cpS 9 (bX w) bD bA (bW w) w1 (fun a => if a < 4 then nb else nw) → ∀ (m k : Nat) (w2 : mW), cpS 2 (ldX w s i0) ldD [28, 29] (setF w1 17 3 (nI n)) w2 (fun _ => k) → rfN (rfF w s i0) k = 0 → k ≤ n → n < k + m → mJ mX0 (d + 4) kX4_load (fun r w' => r = some (.int (rfN (rfF w s i0) n)) ∧ Shape w' ∧ Gr ldA ldF w w' ∧ (rfN (rfF w s i0) n = 0 → ldOK w nb nw n s i0 w')) 26 [.ref 17, .ref 7, .ref 1, .int (nI s), .int (nI i0), .int (nI n), .int (nI k), .null] [] w2 := by
    intro w1 hB
    have hS1 := hB.1
    have gB : Gr ldA ldF w (setF w1 17 3 (nI n)) := ((((Gr.rf.stF (by decide) _).stF (by decide) _).stF (by decide) _).tr (hB.2.1.up (by decide) (by decide))).stF (by decide) _
    have e3 : arr (setF w1 17 3 (nI n)) 3 = arr w 3 := gB.1 3 (by decide)
    have e4 : arr (setF w1 17 3 (nI n)) 4 = arr w 4 := gB.1 4 (by decide)
    have eA : fld (setF w1 17 3 (nI n)) 17 3 = nI n := fld_setF hS1 rfl rfl _
    have b0 : fld (setF w1 17 3 (nI n)) 18 0 = fld w 7 0 := by rw [fld_setF_a (by decide), hB.2.1.2 18 0 (by decide), fld_setF_k (by decide), fld_setF_k (by decide), fld_setF hS0 rfl rfl]
    have b1 : fld (setF w1 17 3 (nI n)) 18 1 = fld w 7 1 := by rw [fld_setF_a (by decide), hB.2.1.2 18 1 (by decide), fld_setF_k (by decide), fld_setF (hS0.stF rfl rfl _) rfl rfl]
    intro m
    induction m with
    | zero => intro k w2 _ _ h1 h2; omega
    | succ m ih =>
      intro k w2 hC hr hk1 hk2
      have hS := hC.1
      have tk : (nI k).toInt = (k : Int) := nI_toInt (by omega)
      have i2 : (2 : Int32) * nI k = nI (2 * k) := pk_mul 2 k
      refine x_iload (pc := 26) dX4_load_26 rfl ?_
      refine x_aload_n (pc := 28) (i := 0) dX4_load_28 rfl rfl ?_
      refine x_getI (pc := 29) hS fX4_38 dX4_load_29 rfl rfl ?_
      rw [hC.2.1.2 17 3 (by decide), eA]
      refine x_icmp_ge (pc := 32) (tgt := 109) dX4_load_32 (by decide) (fun h32 => ?_) (fun h32 => ?_)
      · refine x_iconst (pc := 109) (v := 0) dX4_load_109 (by decide) ?_
        refine x_ri (pc := 110) dX4_load_110 rfl rfl ?_
        have e := show k = n by (try simp only [b2_e0, b2_n0, Decidable.not_not] at *) <;> (try simp only [i_lt, i_le, i_eq, not_and, not_or, ne_eq, il_0, il_1, il_2, il_3, il_4, il_5, il_6, il_7, il_8, il_9, il_10, il_14, il_15, il_19, il_20, il_24, il_30, il_31, il_44, il_48, il_49, il_52, il_57, il_59, il_60, il_70, il_99, il_100, il_103, il_108, il_114, il_m1, il_m2, il_m3, il_m4, il_m9, il_m10, il_m100] at *) <;> omega
        subst e
        refine ⟨by rw [hr], hS, gB.tr (hC.2.1.up (by decide) (by decide)), fun _ => ⟨?_, ?_, ?_, ?_, ?_⟩⟩
        · rw [hC.2.1.2 17 3 (by decide)]; exact eA
        · rw [hC.2.1.2 18 0 (by decide)]; exact b0
        · rw [hC.2.1.2 18 1 (by decide)]; exact b1
        · intro a ha j hj; rw [hC.2.1.1 (19 + a) (by simp; omega), arr_setF]; exact hB.2.2 a ha j hj
        · exact fun t ht => ⟨hC.2.2 0 (by decide) t ht, hC.2.2 1 (by decide) t ht⟩
      · have hkn : k < n := by (try simp only [b2_e0, b2_n0, Decidable.not_not] at *) <;> (try simp only [i_lt, i_le, i_eq, not_and, not_or, ne_eq, il_0, il_1, il_2, il_3, il_4, il_5, il_6, il_7, il_8, il_9, il_10, il_14, il_15, il_19, il_20, il_24, il_30, il_31, il_44, il_48, il_49, il_52, il_57, il_59, il_60, il_70, il_99, il_100, il_103, il_108, il_114, il_m1, il_m2, il_m3, il_m4, il_m9, il_m10, il_m100] at *) <;> omega
        refine x_aload_n (pc := 35) (i := 0) dX4_load_35 rfl rfl ?_
        refine x_getR (pc := 36) hS fX4_18 dX4_load_36 rfl rfl ?_
        refine x_iload (pc := 39) dX4_load_39 rfl ?_
        refine x_aload_n (pc := 41) (i := 2) dX4_load_41 rfl rfl ?_
        refine x_iload_n (pc := 42) (i := 3) dX4_load_42 rfl rfl ?_
        refine x_iload (pc := 43) dX4_load_43 rfl ?_
        refine x_iconst (pc := 45) (v := 2) dX4_load_45 (by decide) ?_
        refine x_iload (pc := 46) dX4_load_46 rfl ?_
        refine x_imul (pc := 48) dX4_load_48 ?_
        refine x_iadd (pc := 49) dX4_load_49 ?_
        rw [i2, nI_add]
        refine x_vs (pc := 50) (As := [_, _]) rfl hS lX4_42 dX4_load_50 rfl rfl (Nat.le_of_ble_eq_true rfl) (c_X5_valueAt (n := N) hS hs (by rw [hC.2.1.1 3 (by decide), e3]; exact hsz) hN (by omega)) ?_
        rintro _ _ ⟨rfl, hq⟩
        obtain rfl := hq.symm
        refine x_pushI ?_
        rw [hC.2.1.1 4 (by decide), e4]
        refine x_astN (pc := 53) hS dX4_load_53 rfl (by omega) (by decide) (fun hS => ?_)
        have hC := hC.st 0 28 k (x := arr w 4 (60 * s + (i0 + 2 * k))) (by decide) rfl rfl rfl rfl (by decide) (ldD_ne 0 rfl)
        refine x_aload_n (pc := 54) (i := 0) dX4_load_54 rfl rfl ?_
        refine x_getR (pc := 55) hS fX4_22 dX4_load_55 rfl rfl ?_
        refine x_iload (pc := 58) dX4_load_58 rfl ?_
        refine x_aload_n (pc := 60) (i := 2) dX4_load_60 rfl rfl ?_
        refine x_iload_n (pc := 61) (i := 3) dX4_load_61 rfl rfl ?_
        refine x_iload (pc := 62) dX4_load_62 rfl ?_
        refine x_iconst (pc := 64) (v := 2) dX4_load_64 (by decide) ?_
        refine x_iload (pc := 65) dX4_load_65 rfl ?_
        refine x_imul (pc := 67) dX4_load_67 ?_
        refine x_iadd (pc := 68) dX4_load_68 ?_
        refine x_iconst (pc := 69) (v := 1) dX4_load_69 (by decide) ?_
        refine x_iadd (pc := 70) dX4_load_70 ?_
        rw [i2, nI_add, nI_1, Nat.add_assoc i0]
        refine x_vs (pc := 71) (As := [_, _]) rfl hS lX4_42 dX4_load_71 rfl rfl (Nat.le_of_ble_eq_true rfl) (c_X5_valueAt (n := N) hS hs (by rw [hC.2.1.1 3 (by decide), e3]; exact hsz) hN (by omega)) ?_
        rintro _ _ ⟨rfl, hq⟩
        obtain rfl := hq.symm
        refine x_pushI ?_
        rw [hC.2.1.1 4 (by decide), e4]
        refine x_astN (pc := 74) hS dX4_load_74 rfl (by omega) (by decide) (fun hS => ?_)
        have hC := hC.st 1 29 k (x := arr w 4 (60 * s + (i0 + (2 * k + 1)))) (by decide) rfl rfl rfl rfl (by decide) (ldD_ne 1 rfl)
        refine x_aload_n (pc := 75) (i := 0) dX4_load_75 rfl rfl ?_
        refine x_aload_n (pc := 76) (i := 0) dX4_load_76 rfl rfl ?_
        refine x_getR (pc := 77) hS fX4_18 dX4_load_77 rfl rfl ?_
        refine x_iload (pc := 80) dX4_load_80 rfl ?_
        refine x_aldN (pc := 82) hS dX4_load_82 rfl (by omega) (by decide) ?_
        rw [show arr _ 28 k = cC w s i0 (2 * k) from hC.2.2 0 (by decide) k (Nat.lt_succ_self k)]
        refine x_aload_n (pc := 83) (i := 0) dX4_load_83 rfl rfl ?_
        refine x_getR (pc := 84) hS fX4_22 dX4_load_84 rfl rfl ?_
        refine x_iload (pc := 87) dX4_load_87 rfl ?_
        refine x_aldN (pc := 89) hS dX4_load_89 rfl (by omega) (by decide) ?_
        rw [show arr _ 29 k = cC w s i0 (2 * k + 1) from hC.2.2 1 (by decide) k (Nat.lt_succ_self k)]
        refine x_vs (pc := 90) (As := [_, _]) rfl hS lX4_47 dX4_load_90 rfl rfl (Nat.le_of_ble_eq_true rfl) (c_X4_refusalOf hS) ?_
        rintro _ _ ⟨rfl, hq⟩
        obtain rfl := hq.symm
        refine x_pushI ?_
        rw [hC.2.1.2 18 0 (by decide), hC.2.1.2 18 1 (by decide), b0, b1]
        refine x_istore (pc := 93) (L' := [_, _, _, _, _, _, _, _]) dX4_load_93 (by decide) rfl ?_
        refine x_iload (pc := 95) dX4_load_95 rfl ?_
        refine x_if_eq (pc := 97) (tgt := 103) dX4_load_97 (by decide) (fun h97 => ?_) (fun h97 => ?_)
        · refine x_iinc (pc := 103) (L' := [_, _, _, _, _, _, _, _]) dX4_load_103 (by decide) rfl (by first | exact nI_inc _ | rfl) rfl ?_
          refine x_goto (pc := 106) (tgt := 26) dX4_load_106 (by decide) ?_
          refine mJ.weak (wk_v (wk_v (wk_v (wk_v (wk_v (wk_v (wk_v (wk_n wk_0)))))))) (ih (k + 1) _ (hC.mono (fun a ha => by (repeat' split) <;> omega)) ?_ (by omega) (by omega))
          show (if rfN (rfF w s i0) k = 0 then rfF w s i0 k else rfN (rfF w s i0) k) = 0
          rw [if_pos hr]; exact h97
        · refine x_iload (pc := 100) dX4_load_100 rfl ?_
          refine x_ri (pc := 102) dX4_load_102 rfl rfl ?_
          have e9 := rfN_stop (f := rfF w s i0) hr h97 hkn
          exact ⟨by rw [e9], hS, gB.tr (hC.2.1.up (by decide) (by decide)), fun z => absurd (e9.symm.trans z) h97⟩
  have hS := hS0
  refine mC.of (L := [_, _, _, _, _, _, _, _]) okX4_load 2 rfl rfl ?_
  refine x_aload_n (pc := 0) (i := 0) dX4_load_0 rfl rfl ?_
  refine x_getR (pc := 1) hS fX4_12 dX4_load_1 rfl rfl ?_
  refine x_aload_n (pc := 4) (i := 1) dX4_load_4 rfl rfl ?_
  refine x_vs (pc := 5) (As := [_]) rfl hS lX4_25 dX4_load_5 rfl rfl (Nat.le_of_ble_eq_true rfl) (c_X0_become hS0 tb hnb tw hnw) ?_
  rintro _ w1 ⟨rfl, hB⟩
  have hS := hB.1
  refine x_pushV ?_
  refine x_aload_n (pc := 8) (i := 0) dX4_load_8 rfl rfl ?_
  refine x_iconst (pc := 9) (v := 0) dX4_load_9 (by decide) ?_
  refine x_iload (pc := 10) dX4_load_10 rfl ?_
  refine x_bipush (pc := 12) (v := 20) dX4_load_12 (by decide) ?_
  refine x_mmin (pc := 14) lX4_29 dX4_load_14 (Nat.le_of_ble_eq_true rfl) ?_
  rw [if_neg (show ¬ (20 : Int32) < nI n from by rw [i_lt, il_20, tn]; omega)]
  refine x_mmax (pc := 17) lX4_35 dX4_load_17 (Nat.le_of_ble_eq_true rfl) ?_
  rw [show (if (0 : Int32) < nI n then nI n else 0) = nI n from by split; rfl; (rename_i z; rw [i_lt, il_0, tn] at z; rw [show n = 0 by omega]; rfl)]
  refine x_putI (pc := 20) hS fX4_38 dX4_load_20 rfl rfl rfl rfl (fun hS => ?_)
  refine x_iconst (pc := 23) (v := 0) dX4_load_23 (by decide) ?_
  refine x_istore (pc := 24) (L' := [_, _, _, _, _, _, _, _]) dX4_load_24 (by decide) rfl ?_
  exact lp w1 hB (n + 1) 0 _ (cpS.zero (hB.1.stF rfl rfl _) (fun _ _ => rfl)) rfl (by omega) (by omega)

