-- down: both
theorem dg_i {cd : Nat → Int32} {p : Nat} {x y : Int32} (hx : 48 ≤ x.toInt) (hy : y.toInt ≤ 57) (h : dg cd p x y) : x.toInt - 48 ≤ (cd p - 48).toInt ∧ (cd p - 48).toInt ≤ y.toInt - 48 := by
  have z1 := h.1
  have z2 := h.2
  rw [i_le] at z1 z2
  have e : (cd p - 48).toInt = (cd p).toInt - 48 := by rw [i_sub, il_48] <;> rw [il_48] <;> omega
  omega
theorem kdE_ok {c : Int32} (h : ¬ kdE c = -9) : kdE c = 0 ∨ kdE c = 1 ∨ kdE c = 2 := by
  unfold kdE at h ⊢
  by_cases h1 : c = 103
  · rw [if_pos h1]; exact Or.inr (Or.inr rfl)
  · rw [if_neg h1] at h ⊢
    by_cases h2 : c = 108
    · rw [if_pos h2]; exact Or.inr (Or.inl rfl)
    · rw [if_neg h2] at h ⊢
      by_cases h3 : c = 114
      · rw [if_pos h3]; exact Or.inl rfl
      · rw [if_neg h3] at h; exact absurd rfl h
theorem tkI_lt {k j : Nat} {r f : Nat → Int32} (h : j < k) : tkI k r f j = r j := if_pos h
theorem bar_ok {cd : Nat → Int32} {nb p0 : Nat} {g0 g1 g2 g3 : Nat → Int32} (h : ∀ j, j < nb → stopB cd (1 + 5 * j) = 1 + 5 * j + 5) : BarOK nb (tkI nb (vX cd p0 0) g0) (tkI nb (vX cd p0 1) g1) (tkI nb (vX cd p0 2) g2) (tkI nb (vX cd p0 3) g3) := by
  intro j hj
  obtain ⟨-, a2, a3, a4, a5⟩ := stopB_f (h j hj)
  have b3 := dg_i (by decide) (by decide) a3
  have b4 := dg_i (by decide) (by decide) a4
  have b5 := dg_i (by decide) (by decide) a5
  rw [show (49 : Int32).toInt = 49 from rfl, show (52 : Int32).toInt = 52 from rfl] at b3
  rw [show (48 : Int32).toInt = 48 from rfl, show (57 : Int32).toInt = 57 from rfl] at b4 b5
  rw [tkI_lt hj, tkI_lt hj, tkI_lt hj, tkI_lt hj]
  refine ⟨kdE_ok a2, ?_, ?_, ?_⟩
  · show 1 ≤ (cd (1 + 5 * j + 2) - 48).toInt ∧ (cd (1 + 5 * j + 2) - 48).toInt ≤ 4; omega
  · show 0 ≤ (cd (1 + 5 * j + 3) - 48).toInt ∧ (cd (1 + 5 * j + 3) - 48).toInt ≤ 9; omega
  · show 0 ≤ (cd (1 + 5 * j + 4) - 48).toInt ∧ (cd (1 + 5 * j + 4) - 48).toInt ≤ 9; omega
theorem wal_ok {cd : Nat → Int32} {nb nw p0 : Nat} {g4 g5 g6 g7 : Nat → Int32} (h : ∀ j, j < nw → stopW cd (p0 + 4 * j) = p0 + 4 * j + 4) : WalOK nb nw (tkI nw (vX cd p0 4) g4) (tkI nw (vX cd p0 5) g5) (tkI nw (vX cd p0 6) g6) (tkI nw (vX cd p0 7) g7) := by
  intro j hj
  obtain ⟨-, a3, a4, a5⟩ := stopW_f (h j hj)
  have b3 := dg_i (by decide) (by decide) a3
  have b4 := dg_i (by decide) (by decide) a4
  have b5 := dg_i (by decide) (by decide) a5
  rw [show (49 : Int32).toInt = 49 from rfl, show (57 : Int32).toInt = 57 from rfl] at b5
  rw [show (48 : Int32).toInt = 48 from rfl, show (57 : Int32).toInt = 57 from rfl] at b3 b4
  rw [tkI_lt hj, tkI_lt hj, tkI_lt hj, tkI_lt hj]
  refine ⟨?_, ?_, ?_, Or.inl rfl⟩
  · show 0 ≤ (cd (p0 + 4 * j + 1) - 48).toInt ∧ (cd (p0 + 4 * j + 1) - 48).toInt ≤ 99; omega
  · show 0 ≤ (cd (p0 + 4 * j + 2) - 48).toInt ∧ (cd (p0 + 4 * j + 2) - 48).toInt ≤ 9; omega
  · show 1 ≤ (cd (p0 + 4 * j + 3) - 48).toInt ∧ (cd (p0 + 4 * j + 3) - 48).toInt ≤ 9; omega
theorem Inv.anew {w w1 w2 w3 : mW} {cd : Nat → Int32} {n : Nat} (hI : Inv w) (hb : (fT cd n).1 = none) (hX : dnP cd (fT cd n).2.1 (fT cd n).2.2 w w1) (g2 : Gr [57, 58] [(44, 0), (44, 17), (44, 18), (44, 19)] w1 w2) (h0 : fld w2 44 0 = 0) (hM : tdP cd (fT cd n).2.1 (fT cd n).2.2 w2 w3) : Inv w3 := by
  obtain ⟨hS, nb0, nw0, nr0, hD, hR, hSI, hTI⟩ := hI
  obtain ⟨-, -, -, -, -, -, -, -, f8, f9, f10, f11, f12, f13, f14, f15, f16⟩ := hD
  obtain ⟨-, -, -, -, r66, r67, r68⟩ := hR
  obtain ⟨o1, o2, o3, o4, o5, o6⟩ := fT_ok hb
  generalize (fT cd n).2.1 = nb at *
  generalize (fT cd n).2.2 = nw at *
  obtain ⟨xS, xg, x08, x70, x71, x72, x403, xa⟩ := hX
  obtain ⟨mS', mg, m5, m6, m7, m32, ma⟩ := hM
  have g : Gr [48, 49, 50, 51, 52, 53, 54, 55, 56, 57, 58] [(44, 0), (44, 5), (44, 6), (44, 7), (44, 17), (44, 18), (44, 19), (44, 32)] w1 w3 := (g2.up (by decide) (by decide)).tr (mg.up (by decide) (by decide))
  have gg : Gr [6, 8, 9, 10, 11, 12, 13, 14, 15, 16, 48, 49, 50, 51, 52, 53, 54, 55, 56, 57, 58] [(0, 8), (5, 1), (5, 2), (5, 3), (7, 0), (7, 1), (7, 2), (40, 3), (44, 0), (44, 5), (44, 6), (44, 7), (44, 17), (44, 18), (44, 19), (44, 32)] w w3 := (xg.up (by decide) (by decide)).tr (g.up (by decide) (by decide))
  have eX : ∀ a, a < 9 → arr w3 (8 + a) = tkI (if a < 4 then nb else nw) (vX cd (1 + 5 * nb) a) (arr w (8 + a)) := fun a ha => by
    rw [g.1 (8 + a) (by simp; omega)]; exact xa a ha
  have eM : ∀ a, a < 9 → arr w3 (48 + a) = tkI (if a < 4 then nb else nw) (vX cd (1 + 5 * nb) a) (arr w (48 + a)) := fun a ha => by
    rw [ma a ha, g2.1 (48 + a) (by simp; omega), xg.1 (48 + a) (by simp; omega)]
  have q : ∀ a, a < 9 → arr w (48 + a) = arr w (8 + a) → arr w3 (48 + a) = arr w3 (8 + a) := fun a ha e => by rw [eM a ha, eX a ha, e]
  refine ⟨mS', nb, nw, 0, ⟨o2, o4, by omega, ?_, ?_, ?_, ?_, ⟨?_, ?_, ?_⟩, q 0 (by decide) f8, q 1 (by decide) f9, q 2 (by decide) f10, q 3 (by decide) f11, q 4 (by decide) f12, q 5 (by decide) f13, q 6 (by decide) f14, q 7 (by decide) f15, q 8 (by decide) f16⟩, ⟨by omega, ?_, fun r hr => absurd hr (Nat.not_lt_zero _), ?_, ?_, ?_, ?_⟩, hSI.gr gg (by decide), ?_, ?_⟩
  · rw [g.2 7 0 (by decide), x70]; exact nI_toInt (by omega)
  · rw [g.2 7 1 (by decide), x71]; exact nI_toInt (by omega)
  · rw [show arr w3 8 = _ from eX 0 (by decide), show arr w3 9 = _ from eX 1 (by decide), show arr w3 10 = _ from eX 2 (by decide), show arr w3 11 = _ from eX 3 (by decide)]
    exact bar_ok o5
  · rw [show arr w3 12 = _ from eX 4 (by decide), show arr w3 13 = _ from eX 5 (by decide), show arr w3 14 = _ from eX 6 (by decide), show arr w3 15 = _ from eX 7 (by decide)]
    exact wal_ok o6
  · rw [m5, g.2 7 0 (by decide), x70]
  · rw [m6, g.2 7 1 (by decide), x71]
  · rw [m7, g.2 7 2 (by decide), x72]
  · rw [g.2 40 3 (by decide), x403]; rfl
  · rw [m32, g.2 40 3 (by decide), x403]
  · rw [gg.1 66 (by decide), gg.1 41 (by decide)]; exact r66
  · rw [gg.1 67 (by decide), gg.1 42 (by decide)]; exact r67
  · rw [gg.1 68 (by decide), gg.1 43 (by decide)]; exact r68
  · rw [mg.2 44 0 (by decide), h0, g.2 0 8 (by decide), x08]
  · rw [gg.2 44 1 (by decide), gg.2 0 7 (by decide)]; exact hTI.2
theorem both_down {w : mW} (hI : Inv w) (sh l i n : Int32) : Both kX7_down kX8_down [.int sh, .int l, .int i, .int n] w := by
  intro d
  obtain ⟨hS, nb, nw, nr, hD, hR, hSI, hT⟩ := id hI; obtain ⟨h1, h2, h3, tb, tw, hB, hW, ⟨e1, e2, e3⟩, f8, f9, f10, f11, f12, f13, f14, f15, f16⟩ := id hD
  have hS1 : ∀ x, Shape (setF w 0 8 x) := fun x => hS.stF rfl rfl _
  have g0 : ∀ x, Gr [] [(0, 8)] w (setF w 0 8 x) := fun x => Gr.rf.stF (by decide) _
  have e3' : (0 ≤ sh ∧ sh < 4) ↔ (0 ≤ sh ∧ sh ≤ 3) := by
    refine and_congr Iff.rfl ?_
    rw [i_lt, i_le, il_4, il_3]; omega
  by_cases hc : (0 ≤ sh ∧ sh < 4) ∧ (0 ≤ l ∧ l ≤ 2)
  · obtain ⟨hsh, hc⟩ := hc
    obtain ⟨s, hs, rfl⟩ := in_nI (x := 4) (n := 4) rfl (by omega) hsh
    have hag : agE (arr w 45 s) (arr w 46 s) l i n = dFt w s l i n := agE_eq hSI hs
    by_cases hf : dFt w s l i n = 0
    · have hf2 := hf
      unfold dFt at hf2
      have ha1 : fRow (arr w 2 s) l = 0 := by
        by_cases z : fRow (arr w 2 s) l = 0
        · exact z
        · rw [if_pos z] at hf2; exact hf2
      rw [if_neg (not_not_intro ha1)] at hf2
      have hn : ¬ n < 0 := fun z => by rw [if_pos z] at hf2; exact absurd hf2 (by decide)
      rw [if_neg hn] at hf2
      obtain ⟨n0, hn0, rfl⟩ := nI_of hn
      rcases hSI.at hs with ⟨q1, q2⟩ | ⟨q1, q2, q3, M, q4, q5, q6, q7⟩
      · exact absurd ha1 (by unfold fRow; rw [if_pos q1]; decide)
      · have hfc := hf2
        unfold fCells at hfc
        have hin : 0 ≤ i.toInt ∧ 0 ≤ (nI n0).toInt ∧ i.toInt + (nI n0).toInt ≤ (arr w 3 s).toInt := by
          by_cases z : 0 ≤ i.toInt ∧ 0 ≤ (nI n0).toInt ∧ i.toInt + (nI n0).toInt ≤ (arr w 3 s).toInt
          · exact z
          · rw [if_neg z] at hfc; exact absurd hfc (by decide)
        rw [q5, nI_toInt (by omega), nI_toInt (by omega)] at hin
        obtain ⟨i0, hi0, rfl⟩ := nI_of (x := i) (by rw [i_lt, il_0]; omega)
        rw [nI_toInt hi0] at hin
        have hi : i0 + n0 ≤ M := by omega
        have hcd : ∀ w1 A G, Shape w1 → Gr A G w w1 → 47 ∉ A → cdM w1 (60 * s + i0) n0 (tC w s i0 n0) := fun w1 A G hSw g hA => by
          refine ⟨hSw, by omega, fun q hq => ?_, fun q hq => ?_⟩
          · unfold tC
            rw [if_pos hq, g.1 47 hA, Nat.add_assoc, q7 (i0 + q) (by omega)]
          · unfold tC
            rw [if_neg (by omega)]
        cases hb : (fT (tC w s i0 n0) n0).1 with
        | some t =>
          refine mC.mono (down_91 (d := d + 16) hS hs hc ha1 hn hf2 (down_b hS hs q5 q4 hi hb)) ?_
          rintro _ w1 ⟨rfl, hSw1, g, hf1⟩
          refine mC.mono (c_X8_down_b (d := d + 16) (w := w1) (cd := tC w s i0 n0) (t := t) hs hc (by rw [g.1 45 (by decide), g.1 46 (by decide), hag]; exact hf) (hcd w1 _ _ hSw1 g (by decide)) hb) ?_
          rintro _ w2 ⟨rfl, hSw2, g2, hf3⟩
          have gg : Gr [6, 57, 58] [(0, 8), (5, 1), (5, 2), (5, 3), (44, 0), (44, 17), (44, 18), (44, 19)] w w2 := (g.up (by decide) (by decide)).tr (g2.up (by decide) (by decide))
          refine ⟨rfl, hI.junkZ hSw2 gg (by decide) (by decide) (by decide) (by decide) (by decide) (by decide) ?_⟩
          rw [hf3, g2.2 0 8 (by decide), hf1]
        | none =>
          refine mC.mono (down_91 (d := d + 16) hS hs hc ha1 hn hf2 (down_t hS hs q5 q4 hi hb)) ?_
          rintro _ w1 ⟨rfl, hX⟩
          refine mC.mono (c_X8_down_t (d := d + 16) (w := w1) (cd := tC w s i0 n0) hs hc (by rw [hX.2.1.1 45 (by decide), hX.2.1.1 46 (by decide), hag]; exact hf) (hcd w1 _ _ hX.1 hX.2.1 (by decide)) hb) ?_
          rintro _ w3 ⟨rfl, w2, g2, h0, hM⟩
          exact ⟨rfl, hI.anew hb hX g2 h0 hM⟩
    · refine mC.mono (c_X7_down_f (d := d + 16) hS hs hc hf) ?_
      rintro _ w1 ⟨rfl, hq⟩
      have g : Gr [] [(0, 8)] w w1 := by rw [hq]; exact g0 _
      have hSw1 : Shape w1 := by rw [hq]; exact hS1 _
      refine mC.mono (c_X8_down_f (d := d + 18) hSw1 hs hc (by rw [g.1 45 (by decide), g.1 46 (by decide), hag]; exact hf)) ?_
      rw [g.1 45 (by decide), g.1 46 (by decide), hag]
      rintro _ w2 ⟨rfl, hq2⟩
      exact ⟨rfl, hI.fault hq hq2⟩
  · refine mC.mono (c_X7_down_no (d := d + 18) hS hc) ?_
    rintro _ w1 ⟨rfl, hq⟩
    subst hq
    refine mC.mono (c_X8_down_no (d := d + 18) (hS1 _) (fun z => hc ⟨e3'.mpr z.1, z.2⟩)) ?_
    simp only [e3']
    rintro _ w2 ⟨rfl, hq⟩
    exact ⟨rfl, hI.fault rfl hq⟩

