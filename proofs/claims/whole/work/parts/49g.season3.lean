-- seasons: the same picture out of rows that are alike where they are read; the class's call
def sEq (nw : Nat) (s s' : S5) : Prop := (∀ j, j < nw → s.1 j = s'.1 j ∧ s.2.1 j = s'.2.1 j ∧ s.2.2.1 j = s'.2.2.1 j ∧ s.2.2.2.1 j = s'.2.2.2.1 j) ∧ s.2.2.2.2 = s'.2.2.2.2
theorem pe_c {NB : Int32} {nb : Nat} {pe pe' lo lo' : Nat → Int32} {j : Nat} (tb : NB.toInt = (nb : Int)) (hp : ∀ b, b < nb → pe b = pe' b) (h : lo j = lo' j) (hi : 0 ≤ lo j ∧ lo j < NB) : pe (lo j).toNatClampNeg = pe' (lo' j).toNatClampNeg := by
  rw [← h]
  refine hp _ ?_
  have h1 := hi.1
  have h2 := hi.2
  rw [i_le, il_0] at h1
  rw [i_lt, tb] at h2
  rw [i_clamp]; omega
theorem pays_c {NB : Int32} {nb : Nat} {pe pe' me me' lo lo' : Nat → Int32} {j : Nat} (tb : NB.toInt = (nb : Int)) (hp : ∀ b, b < nb → pe b = pe' b) (hm : me j = me' j) (h : lo j = lo' j) : paysP NB pe me lo j ↔ paysP NB pe' me' lo' j := by
  constructor
  · rintro ⟨h1, h2⟩
    rw [pe_c tb hp h h1, hm] at h2
    exact ⟨by rw [← h]; exact h1, h2⟩
  · rintro ⟨h1, h2⟩
    rw [← h] at h1
    exact ⟨h1, by rw [pe_c tb hp h h1, hm]; exact h2⟩
theorem nMe_c {NB : Int32} {nb k : Nat} {pe pe' me me' lo lo' : Nat → Int32} {j : Nat} (tb : NB.toInt = (nb : Int)) (hp : ∀ b, b < nb → pe b = pe' b) (hm : me j = me' j) (h : lo j = lo' j) : nMe NB pe me lo k j = nMe NB pe' me' lo' k j := by
  unfold nMe
  by_cases q : j < k ∧ paysP NB pe me lo j
  · rw [if_pos q, if_pos ⟨q.1, (pays_c tb hp hm h).mp q.2⟩, pe_c tb hp h q.2.1, hm]
  · rw [if_neg q, if_neg (fun z => q ⟨z.1, (pays_c tb hp hm h).mpr z.2⟩), hm]
theorem nLo_c {NB : Int32} {nb k : Nat} {pe pe' me me' lo lo' : Nat → Int32} {j : Nat} (tb : NB.toInt = (nb : Int)) (hp : ∀ b, b < nb → pe b = pe' b) (hm : me j = me' j) (h : lo j = lo' j) : nLo NB pe me lo k j = nLo NB pe' me' lo' k j := by
  unfold nLo
  by_cases q : j < k ∧ ¬ paysP NB pe me lo j
  · rw [if_pos q, if_pos ⟨q.1, fun z => q.2 ((pays_c tb hp hm h).mpr z)⟩]
  · rw [if_neg q, if_neg (fun z => q ⟨z.1, fun y => z.2 ((pays_c tb hp hm h).mp y)⟩), h]
theorem nCo_c {NB : Int32} {nb k : Nat} {pe pe' me me' lo lo' co co' : Nat → Int32} {j : Nat} (tb : NB.toInt = (nb : Int)) (hp : ∀ b, b < nb → pe b = pe' b) (hm : me j = me' j) (h : lo j = lo' j) (hc : co j = co' j) : nCo NB pe me lo co k j = nCo NB pe' me' lo' co' k j := by
  unfold nCo
  by_cases q : j < k ∧ ¬ paysP NB pe me lo j
  · rw [if_pos q, if_pos ⟨q.1, fun z => q.2 ((pays_c tb hp hm h).mpr z)⟩, hc]
  · rw [if_neg q, if_neg (fun z => q ⟨z.1, fun y => z.2 ((pays_c tb hp hm h).mp y)⟩), hc]
theorem nSt_c {NB : Int32} {nb nw : Nat} {pe pe' : Nat → Int32} {s s' : A3} (tb : NB.toInt = (nb : Int)) (hp : ∀ b, b < nb → pe b = pe' b) (h : ∀ j, j < nw → s.1 j = s'.1 j ∧ s.2.1 j = s'.2.1 j ∧ s.2.2 j = s'.2.2 j) : ∀ t, ∀ j, j < nw → (nSt NB pe nw t s).1 j = (nSt NB pe' nw t s').1 j ∧ (nSt NB pe nw t s).2.1 j = (nSt NB pe' nw t s').2.1 j ∧ (nSt NB pe nw t s).2.2 j = (nSt NB pe' nw t s').2.2 j
  | 0 => h
  | t + 1 => fun j hj => by
    obtain ⟨a, b, c⟩ := nSt_c tb hp h t j hj
    exact ⟨nMe_c tb hp a b, nLo_c tb hp a b, nCo_c tb hp a b c⟩
theorem nOut_c {NB : Int32} {nb nw : Nat} {pe pe' : Nat → Int32} {s s' : A3} (tb : NB.toInt = (nb : Int)) (hp : ∀ b, b < nb → pe b = pe' b) (h : ∀ j, j < nw → s.1 j = s'.1 j ∧ s.2.1 j = s'.2.1 j ∧ s.2.2 j = s'.2.2 j) : ∀ t, nOut NB pe nw t s = nOut NB pe' nw t s'
  | 0 => rfl
  | t + 1 => by
    simp only [nOut]
    rw [nOut_c tb hp h t]
    congr 1
    refine cntN_congr (fun j hj => ?_)
    obtain ⟨a, b, c⟩ := nSt_c tb hp h t j hj
    unfold outP
    refine decide_eq_decide.mpr ?_
    constructor
    · rintro ⟨h1, h2⟩
      exact ⟨by rw [← b]; exact h1, by rw [← pe_c tb hp b h1, ← a]; exact h2⟩
    · rintro ⟨h1, h2⟩
      rw [← b] at h1
      exact ⟨h1, by rw [pe_c tb hp b h1, a]; exact h2⟩
theorem clampLt {x X : Int32} {n : Nat} (hX : X.toInt = (n : Int)) (h : 0 ≤ x ∧ x < X) : x.toNatClampNeg < n := by
  have h1 := h.1
  have h2 := h.2
  rw [i_le, il_0] at h1
  rw [i_lt, hX] at h2
  rw [i_clamp]; omega
theorem sSt_c {NB NW : Int32} {nb nw : Nat} {ki be pe si re ki' be' pe' si' re' : Nat → Int32} {a b : Int32} {s s' : S5} (tb : NB.toInt = (nb : Int)) (tw : NW.toInt = (nw : Int)) (hb : ∀ j, j < nb → ki j = ki' j ∧ be j = be' j ∧ pe j = pe' j ∧ si j = si' j) (hre : ∀ j, j < nw → re j = re' j) (hg : gP NB NW a b) (hs : sEq nw s s') : (sSt NB NW nw ki be pe si re a b s = none ∧ sSt NB NW nw ki' be' pe' si' re' a b s' = none) ∨ ∃ t t', sSt NB NW nw ki be pe si re a b s = some t ∧ sSt NB NW nw ki' be' pe' si' re' a b s' = some t' ∧ sEq nw t t' := by
  obtain ⟨h1, h2⟩ := hs
  have hp : ∀ b, b < nb → pe b = pe' b := fun b q => (hb b q).2.2.1
  unfold sSt
  by_cases e9 : b = 9
  · have ha := clampLt tw (hg.w (by rw [e9]; decide)).2
    obtain ⟨g1, g2, g3, g4⟩ := h1 _ ha
    rw [if_pos e9, if_pos e9]
    by_cases q : inB NB s.2.2.1 a.toNatClampNeg
    · rw [if_pos q, if_pos (by unfold inB at *; rw [← g3]; exact q)]
      refine Or.inr ⟨_, _, rfl, rfl, fun j hj => ?_, h2⟩
      obtain ⟨k1, k2, k3, k4⟩ := h1 j hj
      refine ⟨k1, k2, ?_, k4⟩
      show upd _ _ _ j = upd _ _ _ j
      unfold upd; split
      · rfl
      · exact k3
    · rw [if_neg q, if_neg (by unfold inB at *; rw [← g3]; exact q)]
      exact Or.inl ⟨rfl, rfl⟩
  · rw [if_neg e9, if_neg e9]
    by_cases e8 : b = 8
    · rw [if_pos e8, if_pos e8]
      refine Or.inr ⟨_, _, rfl, rfl, fun j hj => ?_, ?_⟩
      · obtain ⟨n1, n2, n3⟩ := nSt_c (s := (s.1, s.2.2.1, s.2.2.2.1)) (s' := (s'.1, s'.2.2.1, s'.2.2.2.1)) tb hp (fun j hj => ⟨(h1 j hj).1, (h1 j hj).2.2.1, (h1 j hj).2.2.2⟩) a.toNatClampNeg j hj
        exact ⟨n1, (h1 j hj).2.1, n2, n3⟩
      · show _ + nI _ = _ + nI _
        rw [h2, nOut_c (s := (s.1, s.2.2.1, s.2.2.2.1)) (s' := (s'.1, s'.2.2.1, s'.2.2.2.1)) tb hp (fun j hj => ⟨(h1 j hj).1, (h1 j hj).2.2.1, (h1 j hj).2.2.2⟩)]
    · rw [if_neg e8, if_neg e8]
      obtain ⟨w1, w2⟩ := hg.w e8
      have ha := clampLt tw w2
      have hbb := clampLt tb (w1.resolve_left e9)
      obtain ⟨g1, g2, g3, g4⟩ := h1 _ ha
      obtain ⟨k1, k2, k3, k4⟩ := hb _ hbb
      have hc : cntN (lodgP s.2.2.1 b) nw = cntN (lodgP s'.2.2.1 b) nw := cntN_congr (fun j hj => by unfold lodgP; rw [(h1 j hj).2.2.1])
      have e : canE NB NW nw ki be pe si s.1 s.2.1 re s.2.2.1 a b ↔ canE NB NW nw ki' be' pe' si' s'.1 s'.2.1 re' s'.2.2.1 a b := by
        unfold canE suitE
        rw [hc, g1, g2, g3, k1, k2, k3, k4, hre _ ha]
      by_cases q : canE NB NW nw ki be pe si s.1 s.2.1 re s.2.2.1 a b
      · rw [if_pos q, if_pos (e.mp q)]
        refine Or.inr ⟨_, _, rfl, rfl, fun j hj => ?_, h2⟩
        obtain ⟨j1, j2, j3, j4⟩ := h1 j hj
        refine ⟨j1, ?_, ?_, j4⟩
        · show upd _ _ _ j = upd _ _ _ j
          unfold upd; split
          · exact k4
          · exact j2
        · show upd _ _ _ j = upd _ _ _ j
          unfold upd; split
          · rfl
          · exact j3
      · rw [if_neg q, if_neg (fun z => q (e.mpr z))]
        exact Or.inl ⟨rfl, rfl⟩
theorem sGo_c {nw : Nat} {st st' : Nat → S5 → Option S5} {s s' : S5} (h : sEq nw s s') : ∀ {n : Nat}, (∀ k, k < n → ∀ s s', sEq nw s s' → (st k s = none ∧ st' k s' = none) ∨ ∃ t t', st k s = some t ∧ st' k s' = some t' ∧ sEq nw t t') → (sGo st n s).1 = (sGo st' n s').1 ∧ sEq nw (sGo st n s).2 (sGo st' n s').2
  | 0, _ => ⟨rfl, h⟩
  | n + 1, hst => by
    obtain ⟨i1, i2⟩ := sGo_c h (fun k hk => hst k (by omega)) (n := n)
    simp only [sGo]
    generalize sGo st n s = g at i1 i2
    generalize sGo st' n s' = g' at i1 i2
    obtain ⟨g1, g2⟩ := g
    obtain ⟨g1', g2'⟩ := g'
    simp only at i1 i2
    subst i1
    cases g1 with
    | some t => exact ⟨rfl, i2⟩
    | none =>
      rcases hst n (by omega) g2 g2' i2 with ⟨z1, z2⟩ | ⟨t, t', z1, z2, z3⟩
      · simp only [z1, z2]; exact ⟨trivial, i2⟩
      · simp only [z1, z2]; exact ⟨trivial, z3⟩
theorem ansX_c {fw NB NW x : Int32} {nw : Nat} {s s' : S5} (tw : NW.toInt = (nw : Int)) (h : sEq nw s s') : ansX fw NB NW nw x s = ansX fw NB NW nw x s' := by
  obtain ⟨h1, h2⟩ := h
  unfold ansX
  rw [bitsN_congr (p := inP s.2.2.1 NB) (q := inP s'.2.2.1 NB) (fun j hj => by unfold inP; rw [(h1 j hj).2.2.1]), sumN_congr (fun j hj => (h1 j hj).1), h2]
  by_cases q : 0 ≤ x - x / 10 * 10 ∧ x - x / 10 * 10 < NW
  · obtain ⟨-, -, g3, g4⟩ := h1 _ (clampLt tw q)
    rw [g3, g4]
  · simp only [if_neg q]
abbrev isW (x : Int32) : Prop := (0 ≤ x ∧ x ≤ 3) ∨ (10 ≤ x ∧ x < 15) ∨ (20 ≤ x ∧ x < 25)
theorem c_X7_season_no {d : Nat} {w : mW} {sh l i n x : Int32} (hS : Shape w) (h : ¬ ((0 ≤ sh ∧ sh < 4) ∧ (0 ≤ l ∧ l ≤ 2) ∧ (0 ≤ n ∧ n ≤ 20) ∧ isW x)) : mC (d + 2) kX7_season [.ref 0, .int sh, .int l, .int i, .int n, .int x] w (fun r w' => r = some (.int (if 0 ≤ sh ∧ sh < 4 then -2 else -1)) ∧ w' = setF w 0 8 0) := by
  refine mC.of (L := [_, _, _, _, _, _, _]) okX7_season 1 rfl rfl ?_
  refine x_aload_n (pc := 0) (i := 0) dX7_season_0 rfl rfl ?_
  refine x_iconst (pc := 1) (v := 0) dX7_season_1 (by decide) ?_
  refine x_putI (pc := 2) hS fX7_64 dX7_season_2 rfl rfl rfl rfl (fun hS => ?_)
  refine x_iload_n (pc := 5) (i := 1) dX7_season_5 rfl rfl ?_
  refine x_ss (pc := 6) (As := [_]) rfl lX7_67 dX7_season_6 rfl (Nat.le_of_ble_eq_true rfl) c_X5_isSheet ?_
  rintro _ _ ⟨rfl, hq⟩
  obtain rfl := hq.symm
  refine x_pushI ?_
  refine x_if_ne (pc := 9) (tgt := 14) dX7_season_9 (by decide) (fun h9 => ?_) (fun h9 => ?_)
  · refine x_iload_n (pc := 14) (i := 2) dX7_season_14 rfl rfl ?_
    refine x_ss (pc := 15) (As := [_]) rfl lX7_71 dX7_season_15 rfl (Nat.le_of_ble_eq_true rfl) c_X7_isLane ?_
    rintro _ _ ⟨rfl, hq⟩
    obtain rfl := hq.symm
    refine x_pushI ?_
    refine x_if_eq (pc := 18) (tgt := 41) dX7_season_18 (by decide) (fun h18 => ?_) (fun h18 => ?_)
    · refine x_bipush (pc := 41) (v := (-2)) dX7_season_41 (by decide) ?_
      refine x_ri (pc := 43) dX7_season_43 rfl rfl ?_
      exact ⟨by rw [if_pos (b2_n0.mp h9)], rfl⟩
    · refine x_iload (pc := 21) dX7_season_21 rfl ?_
      refine x_if_lt (pc := 23) (tgt := 41) dX7_season_23 (by decide) (fun h23 => ?_) (fun h23 => ?_)
      · refine x_bipush (pc := 41) (v := (-2)) dX7_season_41 (by decide) ?_
        refine x_ri (pc := 43) dX7_season_43 rfl rfl ?_
        exact ⟨by rw [if_pos (b2_n0.mp h9)], rfl⟩
      · refine x_iload (pc := 26) dX7_season_26 rfl ?_
        refine x_bipush (pc := 28) (v := 20) dX7_season_28 (by decide) ?_
        refine x_icmp_gt (pc := 30) (tgt := 41) dX7_season_30 (by decide) (fun h30 => ?_) (fun h30 => ?_)
        · refine x_bipush (pc := 41) (v := (-2)) dX7_season_41 (by decide) ?_
          refine x_ri (pc := 43) dX7_season_43 rfl rfl ?_
          exact ⟨by rw [if_pos (b2_n0.mp h9)], rfl⟩
        · refine x_iload (pc := 33) dX7_season_33 rfl ?_
          refine x_ss (pc := 35) (As := [_]) rfl lX7_163 dX7_season_35 rfl (Nat.le_of_ble_eq_true rfl) c_X4_isWhat ?_
          rintro _ _ ⟨rfl, hq⟩
          obtain rfl := hq.symm
          refine x_pushI ?_
          refine x_if_ne (pc := 38) (tgt := 44) dX7_season_38 (by decide) (fun h38 => ?_) (fun h38 => ?_)
          · exact absurd ⟨b2_n0.mp h9, b2_n0.mp h18, ⟨Int32.not_lt.mp h23, Int32.not_lt.mp h30⟩, b2_n0.mp h38⟩ h
          · refine x_bipush (pc := 41) (v := (-2)) dX7_season_41 (by decide) ?_
            refine x_ri (pc := 43) dX7_season_43 rfl rfl ?_
            exact ⟨by rw [if_pos (b2_n0.mp h9)], rfl⟩
  · refine x_iconst (pc := 12) (v := (-1)) dX7_season_12 (by decide) ?_
    refine x_ri (pc := 13) dX7_season_13 rfl rfl ?_
    exact ⟨by rw [if_neg (b2_e0.mp h9)], rfl⟩
theorem c_X7_season_f {d : Nat} {w : mW} {l i n x : Int32} {s : Nat} (hS0 : Shape w) (hs : s < 4) (h : (0 ≤ l ∧ l ≤ 2) ∧ (0 ≤ n ∧ n ≤ 20) ∧ isW x) (ha : ¬ lFt w s l i (2 * n) = 0) : mC (d + 3) kX7_season [.ref 0, .int (nI s), .int l, .int i, .int n, .int x] w (fun r w' => r = some (.int (-10 - lFt w s l i (2 * n))) ∧ w' = setF w 0 8 (lFt w s l i (2 * n))) := by
  have hS := hS0
  refine mC.of (L := [_, _, _, _, _, _, _]) okX7_season 1 rfl rfl ?_
  refine x_aload_n (pc := 0) (i := 0) dX7_season_0 rfl rfl ?_
  refine x_iconst (pc := 1) (v := 0) dX7_season_1 (by decide) ?_
  refine x_putI (pc := 2) hS fX7_64 dX7_season_2 rfl rfl rfl rfl (fun hS => ?_)
  refine x_iload_n (pc := 5) (i := 1) dX7_season_5 rfl rfl ?_
  refine x_ss (pc := 6) (As := [_]) rfl lX7_67 dX7_season_6 rfl (Nat.le_of_ble_eq_true rfl) c_X5_isSheet ?_
  rintro _ _ ⟨rfl, hq⟩
  obtain rfl := hq.symm
  refine x_pushI ?_
  refine x_if_ne (pc := 9) (tgt := 14) dX7_season_9 (by decide) (fun h9 => ?_) (fun h9 => absurd h9 (by rw [b2_n0]; exact k4 hs))
  refine x_iload_n (pc := 14) (i := 2) dX7_season_14 rfl rfl ?_
  refine x_ss (pc := 15) (As := [_]) rfl lX7_71 dX7_season_15 rfl (Nat.le_of_ble_eq_true rfl) c_X7_isLane ?_
  rintro _ _ ⟨rfl, hq⟩
  obtain rfl := hq.symm
  refine x_pushI ?_
  refine x_if_eq (pc := 18) (tgt := 41) dX7_season_18 (by decide) (fun h18 => absurd h18 (by rw [b2_e0]; exact not_not_intro h.1)) (fun h18 => ?_)
  refine x_iload (pc := 21) dX7_season_21 rfl ?_
  refine x_if_lt (pc := 23) (tgt := 41) dX7_season_23 (by decide) (fun h23 => absurd h23 (by exact Int32.not_lt.mpr h.2.1.1)) (fun h23 => ?_)
  refine x_iload (pc := 26) dX7_season_26 rfl ?_
  refine x_bipush (pc := 28) (v := 20) dX7_season_28 (by decide) ?_
  refine x_icmp_gt (pc := 30) (tgt := 41) dX7_season_30 (by decide) (fun h30 => absurd h30 (by exact Int32.not_lt.mpr h.2.1.2)) (fun h30 => ?_)
  refine x_iload (pc := 33) dX7_season_33 rfl ?_
  refine x_ss (pc := 35) (As := [_]) rfl lX7_163 dX7_season_35 rfl (Nat.le_of_ble_eq_true rfl) c_X4_isWhat ?_
  rintro _ _ ⟨rfl, hq⟩
  obtain rfl := hq.symm
  refine x_pushI ?_
  refine x_if_ne (pc := 38) (tgt := 44) dX7_season_38 (by decide) (fun h38 => ?_) (fun h38 => absurd h38 (by rw [b2_n0]; exact h.2.2))
  refine x_aload_n (pc := 44) (i := 0) dX7_season_44 rfl rfl ?_
  refine x_aload_n (pc := 45) (i := 0) dX7_season_45 rfl rfl ?_
  refine x_getR (pc := 46) hS fX7_12 dX7_season_46 rfl rfl ?_
  refine x_iload_n (pc := 49) (i := 1) dX7_season_49 rfl rfl ?_
  refine x_iload_n (pc := 50) (i := 2) dX7_season_50 rfl rfl ?_
  refine x_vs (pc := 51) (As := [_, _]) rfl hS lX7_74 dX7_season_51 rfl rfl (Nat.le_of_ble_eq_true rfl) (c_X5_faultOfRow hS hs) ?_
  rintro _ _ ⟨rfl, hq⟩
  obtain rfl := hq.symm
  refine x_pushI ?_
  rw [arr_setF]
  refine x_putI (pc := 54) hS fX7_64 dX7_season_54 rfl rfl rfl rfl (fun hS => ?_)
  rw [setF_setF]
  have hS : Shape (setF w 0 8 (fRow (arr w 2 s) l)) := hS0.stF rfl rfl _
  refine x_aload_n (pc := 57) (i := 0) dX7_season_57 rfl rfl ?_
  refine x_getI (pc := 58) hS fX7_64 dX7_season_58 rfl rfl ?_
  rw [fld_setF hS0 rfl rfl]
  refine x_if_ne (pc := 61) (tgt := 81) dX7_season_61 (by decide) (fun h61 => ?_) (fun h61 => ?_)
  · first | (have z9 := h61; rw [setF_setF, show fCells (arr w 3 s) i (2 * n) = lFt w s l i (2 * n) from by unfold lFt; rw [if_neg (not_not_intro z9)]]) | (have z9 := h61; rw [show fRow (arr w 2 s) l = lFt w s l i (2 * n) from by unfold lFt; rw [if_pos z9]])
    have hS : Shape (setF w 0 8 (lFt w s l i (2 * n))) := hS0.stF rfl rfl _
    refine x_aload_n (pc := 81) (i := 0) dX7_season_81 rfl rfl ?_
    refine x_getI (pc := 82) hS fX7_64 dX7_season_82 rfl rfl ?_
    rw [fld_setF hS0 rfl rfl]
    refine x_if_eq (pc := 85) (tgt := 96) dX7_season_85 (by decide) (fun h85 => absurd h85 (by exact ha)) (fun h85 => ?_)
    refine x_bipush (pc := 88) (v := (-10)) dX7_season_88 (by decide) ?_
    refine x_aload_n (pc := 90) (i := 0) dX7_season_90 rfl rfl ?_
    refine x_getI (pc := 91) hS fX7_64 dX7_season_91 rfl rfl ?_
    rw [fld_setF hS0 rfl rfl]
    refine x_isub (pc := 94) dX7_season_94 ?_
    refine x_ri (pc := 95) dX7_season_95 rfl rfl ?_
    exact ⟨rfl, rfl⟩
  · refine x_aload_n (pc := 64) (i := 0) dX7_season_64 rfl rfl ?_
    refine x_aload_n (pc := 65) (i := 0) dX7_season_65 rfl rfl ?_
    refine x_getR (pc := 66) hS fX7_12 dX7_season_66 rfl rfl ?_
    refine x_iload_n (pc := 69) (i := 1) dX7_season_69 rfl rfl ?_
    refine x_iload_n (pc := 70) (i := 3) dX7_season_70 rfl rfl ?_
    refine x_iconst (pc := 71) (v := 2) dX7_season_71 (by decide) ?_
    refine x_iload (pc := 72) dX7_season_72 rfl ?_
    refine x_imul (pc := 74) dX7_season_74 ?_
    refine x_vs (pc := 75) (As := [_, _, _]) rfl hS lX7_78 dX7_season_75 rfl rfl (Nat.le_of_ble_eq_true rfl) (c_X5_faultOfCells hS hs) ?_
    rintro _ _ ⟨rfl, hq⟩
    obtain rfl := hq.symm
    refine x_pushI ?_
    rw [arr_setF]
    refine x_putI (pc := 78) hS fX7_64 dX7_season_78 rfl rfl rfl rfl (fun hS => ?_)
    first | (have z9 := h61; rw [setF_setF, show fCells (arr w 3 s) i (2 * n) = lFt w s l i (2 * n) from by unfold lFt; rw [if_neg (not_not_intro z9)]]) | (have z9 := h61; rw [show fRow (arr w 2 s) l = lFt w s l i (2 * n) from by unfold lFt; rw [if_pos z9]])
    have hS : Shape (setF w 0 8 (lFt w s l i (2 * n))) := hS0.stF rfl rfl _
    refine x_aload_n (pc := 81) (i := 0) dX7_season_81 rfl rfl ?_
    refine x_getI (pc := 82) hS fX7_64 dX7_season_82 rfl rfl ?_
    rw [fld_setF hS0 rfl rfl]
    refine x_if_eq (pc := 85) (tgt := 96) dX7_season_85 (by decide) (fun h85 => absurd h85 (by exact ha)) (fun h85 => ?_)
    refine x_bipush (pc := 88) (v := (-10)) dX7_season_88 (by decide) ?_
    refine x_aload_n (pc := 90) (i := 0) dX7_season_90 rfl rfl ?_
    refine x_getI (pc := 91) hS fX7_64 dX7_season_91 rfl rfl ?_
    rw [fld_setF hS0 rfl rfl]
    refine x_isub (pc := 94) dX7_season_94 ?_
    refine x_ri (pc := 95) dX7_season_95 rfl rfl ?_
    exact ⟨rfl, rfl⟩
abbrev cG (w : mW) (nw s i0 n : Nat) : Option Nat × S5 := sGo (fun t => sSt (fld w 7 0) (fld w 7 1) nw (arr w 8) (arr w 9) (arr w 10) (arr w 11) (arr w 14) (cC w s i0 (2 * t)) (cC w s i0 (2 * t + 1))) n (arr w 12, arr w 13, arr w 15, arr w 16, 0)
abbrev seF : List (Nat × Nat) := [(0, 8), (17, 3), (17, 4), (17, 5), (18, 0), (18, 1), (18, 2)]
theorem ld_ans {w w1 : mW} {nb nw n s i0 : Nat} {x : Int32} (tb : (fld w 7 0).toInt = (nb : Int)) (tw : (fld w 7 1).toInt = (nw : Int)) (hl : ldOK w nb nw n s i0 w1) (hr : rfN (rfF w s i0) n = 0) : ansX (fwE (pG w1 nw n).1) (fld w1 18 0) (fld w1 18 1) nw x (pG w1 nw n).2 = ansX (fwE (cG w nw s i0 n).1) (fld w 7 0) (fld w 7 1) nw x (cG w nw s i0 n).2 := by
  obtain ⟨l1, l2, l3, l4, l5⟩ := hl
  have h := sGo_c (nw := nw) (st := fun t s => sX w1 nw (arr w1 28 t) (arr w1 29 t) s) (st' := fun t => sSt (fld w 7 0) (fld w 7 1) nw (arr w 8) (arr w 9) (arr w 10) (arr w 11) (arr w 14) (cC w s i0 (2 * t)) (cC w s i0 (2 * t + 1))) (s := (arr w1 23, arr w1 24, arr w1 26, arr w1 27, 0)) (s' := (arr w 12, arr w 13, arr w 15, arr w 16, 0)) ⟨fun j hj => ⟨l4 4 (by decide) j hj, l4 5 (by decide) j hj, l4 7 (by decide) j hj, l4 8 (by decide) j hj⟩, rfl⟩ (n := n) (fun k hk t t' ht => by
    show (sX w1 nw (arr w1 28 k) (arr w1 29 k) t = none ∧ _) ∨ _
    unfold sX
    rw [(l5 k hk).1, (l5 k hk).2, l2, l3]
    exact sSt_c tb tw (fun j hj => ⟨l4 0 (by decide) j hj, l4 1 (by decide) j hj, l4 2 (by decide) j hj, l4 3 (by decide) j hj⟩) (fun j hj => l4 6 (by decide) j hj) (refE_0 (rfN_0 hr k hk)) ht)
  show ansX (fwE (sGo _ n _).1) _ _ nw x (sGo _ n _).2 = _
  rw [l2, l3, h.1, ansX_c tw h.2]
theorem c_X7_season_s {d : Nat} {w : mW} {l i n x : Int32} {s : Nat} (hS0 : Shape w) (hs : s < 4) (h : (0 ≤ l ∧ l ≤ 2) ∧ (0 ≤ n ∧ n ≤ 20) ∧ isW x) (ha1 : fRow (arr w 2 s) l = 0) (ha2 : fCells (arr w 3 s) i (2 * n) = 0) (h0 : ¬ 0 < fld w 7 0) : mC (d + 3) kX7_season [.ref 0, .int (nI s), .int l, .int i, .int n, .int x] w (fun r w' => r = some (.int (-3)) ∧ w' = setF w 0 8 0) := by
  have hS := hS0
  refine mC.of (L := [_, _, _, _, _, _, _]) okX7_season 1 rfl rfl ?_
  refine x_aload_n (pc := 0) (i := 0) dX7_season_0 rfl rfl ?_
  refine x_iconst (pc := 1) (v := 0) dX7_season_1 (by decide) ?_
  refine x_putI (pc := 2) hS fX7_64 dX7_season_2 rfl rfl rfl rfl (fun hS => ?_)
  refine x_iload_n (pc := 5) (i := 1) dX7_season_5 rfl rfl ?_
  refine x_ss (pc := 6) (As := [_]) rfl lX7_67 dX7_season_6 rfl (Nat.le_of_ble_eq_true rfl) c_X5_isSheet ?_
  rintro _ _ ⟨rfl, hq⟩
  obtain rfl := hq.symm
  refine x_pushI ?_
  refine x_if_ne (pc := 9) (tgt := 14) dX7_season_9 (by decide) (fun h9 => ?_) (fun h9 => absurd h9 (by rw [b2_n0]; exact k4 hs))
  refine x_iload_n (pc := 14) (i := 2) dX7_season_14 rfl rfl ?_
  refine x_ss (pc := 15) (As := [_]) rfl lX7_71 dX7_season_15 rfl (Nat.le_of_ble_eq_true rfl) c_X7_isLane ?_
  rintro _ _ ⟨rfl, hq⟩
  obtain rfl := hq.symm
  refine x_pushI ?_
  refine x_if_eq (pc := 18) (tgt := 41) dX7_season_18 (by decide) (fun h18 => absurd h18 (by rw [b2_e0]; exact not_not_intro h.1)) (fun h18 => ?_)
  refine x_iload (pc := 21) dX7_season_21 rfl ?_
  refine x_if_lt (pc := 23) (tgt := 41) dX7_season_23 (by decide) (fun h23 => absurd h23 (by exact Int32.not_lt.mpr h.2.1.1)) (fun h23 => ?_)
  refine x_iload (pc := 26) dX7_season_26 rfl ?_
  refine x_bipush (pc := 28) (v := 20) dX7_season_28 (by decide) ?_
  refine x_icmp_gt (pc := 30) (tgt := 41) dX7_season_30 (by decide) (fun h30 => absurd h30 (by exact Int32.not_lt.mpr h.2.1.2)) (fun h30 => ?_)
  refine x_iload (pc := 33) dX7_season_33 rfl ?_
  refine x_ss (pc := 35) (As := [_]) rfl lX7_163 dX7_season_35 rfl (Nat.le_of_ble_eq_true rfl) c_X4_isWhat ?_
  rintro _ _ ⟨rfl, hq⟩
  obtain rfl := hq.symm
  refine x_pushI ?_
  refine x_if_ne (pc := 38) (tgt := 44) dX7_season_38 (by decide) (fun h38 => ?_) (fun h38 => absurd h38 (by rw [b2_n0]; exact h.2.2))
  refine x_aload_n (pc := 44) (i := 0) dX7_season_44 rfl rfl ?_
  refine x_aload_n (pc := 45) (i := 0) dX7_season_45 rfl rfl ?_
  refine x_getR (pc := 46) hS fX7_12 dX7_season_46 rfl rfl ?_
  refine x_iload_n (pc := 49) (i := 1) dX7_season_49 rfl rfl ?_
  refine x_iload_n (pc := 50) (i := 2) dX7_season_50 rfl rfl ?_
  refine x_vs (pc := 51) (As := [_, _]) rfl hS lX7_74 dX7_season_51 rfl rfl (Nat.le_of_ble_eq_true rfl) (c_X5_faultOfRow hS hs) ?_
  rintro _ _ ⟨rfl, hq⟩
  obtain rfl := hq.symm
  refine x_pushI ?_
  rw [arr_setF, ha1]
  refine x_putI (pc := 54) hS fX7_64 dX7_season_54 rfl rfl rfl rfl (fun hS => ?_)
  rw [setF_setF]
  have hS : Shape (setF w 0 8 0) := hS0.stF rfl rfl _
  refine x_aload_n (pc := 57) (i := 0) dX7_season_57 rfl rfl ?_
  refine x_getI (pc := 58) hS fX7_64 dX7_season_58 rfl rfl ?_
  rw [fld_setF hS0 rfl rfl]
  refine x_if_ne (pc := 61) (tgt := 81) dX7_season_61 (by decide) (fun h61 => absurd h61 (by exact not_not_intro rfl)) (fun h61 => ?_)
  refine x_aload_n (pc := 64) (i := 0) dX7_season_64 rfl rfl ?_
  refine x_aload_n (pc := 65) (i := 0) dX7_season_65 rfl rfl ?_
  refine x_getR (pc := 66) hS fX7_12 dX7_season_66 rfl rfl ?_
  refine x_iload_n (pc := 69) (i := 1) dX7_season_69 rfl rfl ?_
  refine x_iload_n (pc := 70) (i := 3) dX7_season_70 rfl rfl ?_
  refine x_iconst (pc := 71) (v := 2) dX7_season_71 (by decide) ?_
  refine x_iload (pc := 72) dX7_season_72 rfl ?_
  refine x_imul (pc := 74) dX7_season_74 ?_
  refine x_vs (pc := 75) (As := [_, _, _]) rfl hS lX7_78 dX7_season_75 rfl rfl (Nat.le_of_ble_eq_true rfl) (c_X5_faultOfCells hS hs) ?_
  rintro _ _ ⟨rfl, hq⟩
  obtain rfl := hq.symm
  refine x_pushI ?_
  rw [arr_setF, ha2]
  refine x_putI (pc := 78) hS fX7_64 dX7_season_78 rfl rfl rfl rfl (fun hS => ?_)
  rw [setF_setF]
  have hS : Shape (setF w 0 8 0) := hS0.stF rfl rfl _
  refine x_aload_n (pc := 81) (i := 0) dX7_season_81 rfl rfl ?_
  refine x_getI (pc := 82) hS fX7_64 dX7_season_82 rfl rfl ?_
  rw [fld_setF hS0 rfl rfl]
  refine x_if_eq (pc := 85) (tgt := 96) dX7_season_85 (by decide) (fun h85 => ?_) (fun h85 => absurd h85 (by exact not_not_intro rfl))
  refine x_aload_n (pc := 96) (i := 0) dX7_season_96 rfl rfl ?_
  refine x_getR (pc := 97) hS fX7_28 dX7_season_97 rfl rfl ?_
  refine x_vs (pc := 100) (As := []) rfl hS lX7_156 dX7_season_100 rfl rfl (Nat.le_of_ble_eq_true rfl) (c_X0_isThere_7 hS) ?_
  rintro _ _ ⟨rfl, hq⟩
  obtain rfl := hq.symm
  refine x_pushI ?_
  rw [fld_setF_a (by decide)]
  refine x_if_ne (pc := 103) (tgt := 109) dX7_season_103 (by decide) (fun h103 => absurd h103 (by rw [b2_n0]; exact h0)) (fun h103 => ?_)
  refine x_bipush (pc := 106) (v := (-3)) dX7_season_106 (by decide) ?_
  refine x_ri (pc := 108) dX7_season_108 rfl rfl ?_
  exact ⟨rfl, rfl⟩
theorem c_X7_season_m {d : Nat} {w : mW} {l x : Int32} {s i0 n N nb nw : Nat} (hS0 : Shape w) (hs : s < 4) (h : (0 ≤ l ∧ l ≤ 2) ∧ (0 ≤ nI n ∧ nI n ≤ 20) ∧ isW x) (hn : n ≤ 20) (ha1 : fRow (arr w 2 s) l = 0) (ha2 : fCells (arr w 3 s) (nI i0) (2 * nI n) = 0) (h0 : 0 < fld w 7 0) (tb : (fld w 7 0).toInt = (nb : Int)) (hnb : nb ≤ 5) (tw : (fld w 7 1).toInt = (nw : Int)) (hnw : nw ≤ 5) (hsz : arr w 3 s = nI N) (hN : N ≤ 60) (hi : i0 + 2 * n ≤ N) : mC (d + 6) kX7_season [.ref 0, .int (nI s), .int l, .int (nI i0), .int (nI n), .int x] w (fun r w' => r = some (.int (if rfN (rfF w s i0) n = 0 then ansX (fwE (cG w nw s i0 n).1) (fld w 7 0) (fld w 7 1) nw x (cG w nw s i0 n).2 else rfN (rfF w s i0) n)) ∧ Shape w' ∧ Gr ldA seF w w' ∧ fld w' 0 8 = 0) := by
  have hS := hS0
  have hS1 : Shape (setF w 0 8 0) := hS0.stF rfl rfl _
  have f0 : fld (setF w 0 8 0) 7 0 = fld w 7 0 := fld_setF_a (by decide) _
  have f1 : fld (setF w 0 8 0) 7 1 = fld w 7 1 := fld_setF_a (by decide) _
  have er : rfF (setF w 0 8 0) s i0 = rfF w s i0 := by
    funext t
    show refE _ _ (arr _ 4 _) (arr _ 4 _) = _
    rw [f0, f1, arr_setF]
  have eG : cG (setF w 0 8 0) nw s i0 n = cG w nw s i0 n := by
    show sGo (fun t => sSt _ _ nw (arr _ 8) (arr _ 9) (arr _ 10) (arr _ 11) (arr _ 14) (arr _ 4 _) (arr _ 4 _)) n (arr _ 12, arr _ 13, arr _ 15, arr _ 16, 0) = _
    rw [f0, f1]
    simp only [arr_setF]
  have hld := c_X4_load (d := d + 1) (w := setF w 0 8 0) (s := s) (i0 := i0) (n := n) (N := N) hS1 (by rw [f0]; exact tb) hnb (by rw [f1]; exact tw) hnw hs (by rw [arr_setF]; exact hsz) hN hi hn
  rw [er] at hld
  refine mC.of (L := [_, _, _, _, _, _, _]) okX7_season 1 rfl rfl ?_
  refine x_aload_n (pc := 0) (i := 0) dX7_season_0 rfl rfl ?_
  refine x_iconst (pc := 1) (v := 0) dX7_season_1 (by decide) ?_
  refine x_putI (pc := 2) hS fX7_64 dX7_season_2 rfl rfl rfl rfl (fun hS => ?_)
  refine x_iload_n (pc := 5) (i := 1) dX7_season_5 rfl rfl ?_
  refine x_ss (pc := 6) (As := [_]) rfl lX7_67 dX7_season_6 rfl (Nat.le_of_ble_eq_true rfl) c_X5_isSheet ?_
  rintro _ _ ⟨rfl, hq⟩
  obtain rfl := hq.symm
  refine x_pushI ?_
  refine x_if_ne (pc := 9) (tgt := 14) dX7_season_9 (by decide) (fun h9 => ?_) (fun h9 => absurd h9 (by rw [b2_n0]; exact k4 hs))
  refine x_iload_n (pc := 14) (i := 2) dX7_season_14 rfl rfl ?_
  refine x_ss (pc := 15) (As := [_]) rfl lX7_71 dX7_season_15 rfl (Nat.le_of_ble_eq_true rfl) c_X7_isLane ?_
  rintro _ _ ⟨rfl, hq⟩
  obtain rfl := hq.symm
  refine x_pushI ?_
  refine x_if_eq (pc := 18) (tgt := 41) dX7_season_18 (by decide) (fun h18 => absurd h18 (by rw [b2_e0]; exact not_not_intro h.1)) (fun h18 => ?_)
  refine x_iload (pc := 21) dX7_season_21 rfl ?_
  refine x_if_lt (pc := 23) (tgt := 41) dX7_season_23 (by decide) (fun h23 => absurd h23 (by exact Int32.not_lt.mpr h.2.1.1)) (fun h23 => ?_)
  refine x_iload (pc := 26) dX7_season_26 rfl ?_
  refine x_bipush (pc := 28) (v := 20) dX7_season_28 (by decide) ?_
  refine x_icmp_gt (pc := 30) (tgt := 41) dX7_season_30 (by decide) (fun h30 => absurd h30 (by exact Int32.not_lt.mpr h.2.1.2)) (fun h30 => ?_)
  refine x_iload (pc := 33) dX7_season_33 rfl ?_
  refine x_ss (pc := 35) (As := [_]) rfl lX7_163 dX7_season_35 rfl (Nat.le_of_ble_eq_true rfl) c_X4_isWhat ?_
  rintro _ _ ⟨rfl, hq⟩
  obtain rfl := hq.symm
  refine x_pushI ?_
  refine x_if_ne (pc := 38) (tgt := 44) dX7_season_38 (by decide) (fun h38 => ?_) (fun h38 => absurd h38 (by rw [b2_n0]; exact h.2.2))
  refine x_aload_n (pc := 44) (i := 0) dX7_season_44 rfl rfl ?_
  refine x_aload_n (pc := 45) (i := 0) dX7_season_45 rfl rfl ?_
  refine x_getR (pc := 46) hS fX7_12 dX7_season_46 rfl rfl ?_
  refine x_iload_n (pc := 49) (i := 1) dX7_season_49 rfl rfl ?_
  refine x_iload_n (pc := 50) (i := 2) dX7_season_50 rfl rfl ?_
  refine x_vs (pc := 51) (As := [_, _]) rfl hS lX7_74 dX7_season_51 rfl rfl (Nat.le_of_ble_eq_true rfl) (c_X5_faultOfRow hS hs) ?_
  rintro _ _ ⟨rfl, hq⟩
  obtain rfl := hq.symm
  refine x_pushI ?_
  rw [arr_setF, ha1]
  refine x_putI (pc := 54) hS fX7_64 dX7_season_54 rfl rfl rfl rfl (fun hS => ?_)
  rw [setF_setF]
  have hS : Shape (setF w 0 8 0) := hS0.stF rfl rfl _
  refine x_aload_n (pc := 57) (i := 0) dX7_season_57 rfl rfl ?_
  refine x_getI (pc := 58) hS fX7_64 dX7_season_58 rfl rfl ?_
  rw [fld_setF hS0 rfl rfl]
  refine x_if_ne (pc := 61) (tgt := 81) dX7_season_61 (by decide) (fun h61 => absurd h61 (by exact not_not_intro rfl)) (fun h61 => ?_)
  refine x_aload_n (pc := 64) (i := 0) dX7_season_64 rfl rfl ?_
  refine x_aload_n (pc := 65) (i := 0) dX7_season_65 rfl rfl ?_
  refine x_getR (pc := 66) hS fX7_12 dX7_season_66 rfl rfl ?_
  refine x_iload_n (pc := 69) (i := 1) dX7_season_69 rfl rfl ?_
  refine x_iload_n (pc := 70) (i := 3) dX7_season_70 rfl rfl ?_
  refine x_iconst (pc := 71) (v := 2) dX7_season_71 (by decide) ?_
  refine x_iload (pc := 72) dX7_season_72 rfl ?_
  refine x_imul (pc := 74) dX7_season_74 ?_
  refine x_vs (pc := 75) (As := [_, _, _]) rfl hS lX7_78 dX7_season_75 rfl rfl (Nat.le_of_ble_eq_true rfl) (c_X5_faultOfCells hS hs) ?_
  rintro _ _ ⟨rfl, hq⟩
  obtain rfl := hq.symm
  refine x_pushI ?_
  rw [arr_setF, ha2]
  refine x_putI (pc := 78) hS fX7_64 dX7_season_78 rfl rfl rfl rfl (fun hS => ?_)
  rw [setF_setF]
  have hS : Shape (setF w 0 8 0) := hS0.stF rfl rfl _
  refine x_aload_n (pc := 81) (i := 0) dX7_season_81 rfl rfl ?_
  refine x_getI (pc := 82) hS fX7_64 dX7_season_82 rfl rfl ?_
  rw [fld_setF hS0 rfl rfl]
  refine x_if_eq (pc := 85) (tgt := 96) dX7_season_85 (by decide) (fun h85 => ?_) (fun h85 => absurd h85 (by exact not_not_intro rfl))
  refine x_aload_n (pc := 96) (i := 0) dX7_season_96 rfl rfl ?_
  refine x_getR (pc := 97) hS fX7_28 dX7_season_97 rfl rfl ?_
  refine x_vs (pc := 100) (As := []) rfl hS lX7_156 dX7_season_100 rfl rfl (Nat.le_of_ble_eq_true rfl) (c_X0_isThere_7 hS) ?_
  rintro _ _ ⟨rfl, hq⟩
  obtain rfl := hq.symm
  refine x_pushI ?_
  rw [fld_setF_a (by decide)]
  refine x_if_ne (pc := 103) (tgt := 109) dX7_season_103 (by decide) (fun h103 => ?_) (fun h103 => absurd h103 (by rw [b2_n0]; exact h0))
  refine x_aload_n (pc := 109) (i := 0) dX7_season_109 rfl rfl ?_
  refine x_getR (pc := 110) hS fX7_35 dX7_season_110 rfl rfl ?_
  refine x_aload_n (pc := 113) (i := 0) dX7_season_113 rfl rfl ?_
  refine x_getR (pc := 114) hS fX7_28 dX7_season_114 rfl rfl ?_
  refine x_aload_n (pc := 117) (i := 0) dX7_season_117 rfl rfl ?_
  refine x_getR (pc := 118) hS fX7_12 dX7_season_118 rfl rfl ?_
  refine x_iload_n (pc := 121) (i := 1) dX7_season_121 rfl rfl ?_
  refine x_iload_n (pc := 122) (i := 3) dX7_season_122 rfl rfl ?_
  refine x_iload (pc := 123) dX7_season_123 rfl ?_
  refine x_vs (pc := 125) (As := [_, _, _, _, _]) rfl hS lX7_166 dX7_season_125 rfl rfl (Nat.le_of_ble_eq_true rfl) hld ?_
  rintro _ w1 ⟨rfl, hS, g1, hok⟩
  have g1' : Gr ldA seF w w1 := (Gr.rf.stF (by decide) _).tr (g1.up (by decide) (by decide))
  have hf1 : fld w1 0 8 = 0 := by rw [g1.2 0 8 (by decide), fld_setF hS0 rfl rfl]
  have hSw1 := hS
  refine x_pushI ?_
  refine x_istore (pc := 128) (L' := [_, _, _, _, _, _, _]) dX7_season_128 (by decide) rfl ?_
  refine x_iload (pc := 130) dX7_season_130 rfl ?_
  refine x_if_eq (pc := 132) (tgt := 138) dX7_season_132 (by decide) (fun h132 => ?_) (fun h132 => ?_)
  · have hk := hok h132
    have ha := ld_ans (x := x) (by rw [f0]; exact tb) (by rw [f1]; exact tw) hk (by rw [er]; exact h132)
    rw [f0, f1, eG] at ha
    have tb1 : (fld w1 18 0).toInt = (nb : Int) := by rw [hk.2.1, f0]; exact tb
    have tw1 : (fld w1 18 1).toInt = (nw : Int) := by rw [hk.2.2.1, f1]; exact tw
    refine x_aload_n (pc := 138) (i := 0) dX7_season_138 rfl rfl ?_
    refine x_getR (pc := 139) hS fX7_35 dX7_season_139 rfl rfl ?_
    refine x_vs (pc := 142) (As := []) rfl hS lX7_169 dX7_season_142 rfl rfl (Nat.le_of_ble_eq_true rfl) (c_X4_play hSw1 tb1 hnb tw1 hnw hn hk.1 (fun t ht => by rw [(hk.2.2.2.2 t ht).1, (hk.2.2.2.2 t ht).2, hk.2.1, hk.2.2.1]; exact refE_0 (rfN_0 (f := rfF (setF w 0 8 0) s i0) (by rw [er]; exact h132) t ht))) ?_
    rintro _ w2 ⟨rfl, hX, hfw⟩
    have hS := hX.1
    refine x_pushV ?_
    refine x_aload_n (pc := 145) (i := 0) dX7_season_145 rfl rfl ?_
    refine x_getR (pc := 146) hS fX7_35 dX7_season_146 rfl rfl ?_
    refine x_iload (pc := 149) dX7_season_149 rfl ?_
    refine x_vs (pc := 151) (As := [_]) rfl hS lX7_172 dX7_season_151 rfl rfl (Nat.le_of_ble_eq_true rfl) (c_X4_answerTo (nb := nb) hX tw1 hnw) ?_
    rintro _ _ ⟨rfl, hq⟩
    obtain rfl := hq.symm
    refine x_pushI ?_
    refine x_ri (pc := 154) dX7_season_154 rfl rfl ?_
    refine ⟨by rw [if_pos h132, hfw, ha], hS, g1'.tr (hX.2.1.up (by decide) (by decide)), ?_⟩
    rw [hX.2.1.2 0 8 (by decide)]; exact hf1
  · refine x_iload (pc := 135) dX7_season_135 rfl ?_
    refine x_ri (pc := 137) dX7_season_137 rfl rfl ?_
    exact ⟨by rw [if_neg h132], hS, g1', hf1⟩

