-- season: both
theorem x_ten : ∀ t, t < 5 → nI (10 + t) - nI (10 + t) / 10 * 10 = nI t ∧ nI (10 + t) - 10 = nI t ∧ ¬ (20 : Int32) ≤ nI (10 + t) ∧ (10 : Int32) ≤ nI (10 + t) ∧ nI (10 + t) < 20 ∧ ¬ nI (10 + t) = 0 ∧ ¬ nI (10 + t) = 2 ∧ ¬ nI (10 + t) = 3 := by decide +kernel
theorem x_twe : ∀ t, t < 5 → nI (20 + t) - nI (20 + t) / 10 * 10 = nI t ∧ nI (20 + t) - 20 = nI t ∧ (20 : Int32) ≤ nI (20 + t) ∧ ¬ nI (20 + t) < 20 ∧ ¬ nI (20 + t) = 0 ∧ ¬ nI (20 + t) = 2 ∧ ¬ nI (20 + t) = 3 := by decide +kernel
theorem x_of {x : Int32} {a n : Nat} (h1 : (a : Int) ≤ x.toInt) (h2 : x.toInt < (a : Int) + n) (hn : a + n < 1000) : ∃ t, t < n ∧ x = nI (a + t) := by
  refine ⟨x.toInt.toNat - a, by omega, ?_⟩
  rw [i_eq, nI_toInt (by omega)]
  omega
theorem ans_eq {fw NB NW x : Int32} {nb nw : Nat} {re : Nat → Int32} {s : S5} (tb : NB.toInt = (nb : Int)) (hnb : nb ≤ 5) (hx : isW x) (hW : WalOK nb nw s.1 s.2.1 re s.2.2.1) : ansM fw NW nw x s = ansX fw NB NW nw x s := by
  unfold ansM ansX
  by_cases e1 : x = 1
  · rw [if_pos e1, if_pos e1]
  · rw [if_neg e1, if_neg e1]
    by_cases e2 : fw = -9
    · rw [if_pos e2, if_pos e2]
      unfold telM
      rw [bitsN_congr (lo_P hW tb hnb)]
      rcases hx with ⟨q1, q2⟩ | ⟨q1, q2⟩ | ⟨q1, q2⟩
      · rw [i_le, il_0] at q1
        rw [i_le, il_3] at q2
        rw [if_neg (by rw [i_le, il_20]; omega), if_neg (by rw [i_le, il_10]; omega)]
        by_cases e3 : x = 3
        · subst e3; rfl
        · by_cases e0 : x = 0
          · subst e0; rfl
          · have e4 : x = 2 := by
              rw [i_eq] at *
              rw [il_1] at e1
              rw [il_3] at e3
              rw [il_0] at e0
              rw [il_2]; omega
            subst e4; rfl
      · obtain ⟨t, ht, rfl⟩ := x_of (x := x) (a := 10) (n := 5) (by rw [i_le, il_10] at q1; exact q1) (by rw [i_lt, show (15 : Int32).toInt = 15 from rfl] at q2; exact q2) (by decide)
        obtain ⟨a1, a2, a3, a4, a5, a6, a7, a8⟩ := x_ten t ht
        rw [a1, a2, if_neg a3, if_pos a4, if_neg a6, if_neg a7, if_neg a8, if_pos a5]
      · obtain ⟨t, ht, rfl⟩ := x_of (x := x) (a := 20) (n := 5) (by rw [i_le, il_20] at q1; exact q1) (by rw [i_lt, show (25 : Int32).toInt = 25 from rfl] at q2; exact q2) (by decide)
        obtain ⟨a1, a2, a3, a4, a5, a6, a7⟩ := x_twe t ht
        rw [a1, a2, if_pos a3, if_neg a5, if_neg a6, if_neg a7, if_neg a4]
    · rw [if_neg e2, if_neg e2]
theorem rfN_congr {f g : Nat → Int32} : ∀ {n : Nat}, (∀ k, k < n → f k = g k) → rfN f n = rfN g n
  | 0, _ => rfl
  | n + 1, h => by simp only [rfN]; rw [rfN_congr (fun k hk => h k (by omega)), h n (by omega)]
theorem sGo_ext {st st' : Nat → S5 → Option S5} {s : S5} : ∀ {n : Nat}, (∀ k, k < n → ∀ s, st k s = st' k s) → sGo st n s = sGo st' n s
  | 0, _ => rfl
  | n + 1, h => by
    simp only [sGo]
    rw [sGo_ext (n := n) (fun k hk => h k (by omega))]
    split
    · rfl
    · rw [h n (by omega)]
theorem both_season {w : mW} (hI : Inv w) (sh l i n x : Int32) : Both kX7_season kX8_season [.int sh, .int l, .int i, .int n, .int x] w := by
  intro d
  obtain ⟨hS, nb, nw, nr, hD, hR, hSI, hT⟩ := id hI; obtain ⟨h1, h2, h3, tb, tw, hB, hW, ⟨e1, e2, e3⟩, f8, f9, f10, f11, f12, f13, f14, f15, f16⟩ := id hD
  have hS1 : ∀ x, Shape (setF w 0 8 x) := fun x => hS.stF rfl rfl _
  have g0 : ∀ x, Gr [] [(0, 8)] w (setF w 0 8 x) := fun x => Gr.rf.stF (by decide) _
  have e3' : (0 ≤ sh ∧ sh < 4) ↔ (0 ≤ sh ∧ sh ≤ 3) := by
    refine and_congr Iff.rfl ?_
    rw [i_lt, i_le, il_4, il_3]; omega
  by_cases hc : (0 ≤ sh ∧ sh < 4) ∧ (0 ≤ l ∧ l ≤ 2) ∧ (0 ≤ n ∧ n ≤ 20) ∧ isW x
  · obtain ⟨hsh, hc⟩ := hc
    obtain ⟨s, hs, rfl⟩ := in_nI (x := 4) (n := 4) rfl (by omega) hsh
    obtain ⟨N, hN, rfl⟩ : ∃ N : Nat, N ≤ 20 ∧ n = nI N := nI_of2 (M := 20) (n := 20) rfl (Int32.not_lt.mpr hc.2.1.1) hc.2.1.2
    have hcM : (0 ≤ l ∧ l ≤ 2) ∧ (0 ≤ nI N ∧ nI N ≤ 20) ∧ isM x := ⟨hc.1, hc.2.1, isM_W.mpr hc.2.2⟩
    have i2 : (2 : Int32) * nI N = nI (2 * N) := pk_mul 2 N
    have hag : agE (arr w 45 s) (arr w 46 s) l i (2 * nI N) = lFt w s l i (2 * nI N) := by
      rw [agE_eq hSI hs, if_neg (c := 2 * nI N < 0) (by rw [i2, i_lt, il_0, nI_toInt (by omega)]; omega)]; rfl
    by_cases hf : lFt w s l i (2 * nI N) = 0
    · have ha1 : fRow (arr w 2 s) l = 0 := by
        unfold lFt at hf
        by_cases z : fRow (arr w 2 s) l = 0
        · exact z
        · rw [if_pos z] at hf; exact hf
      have ha2 : fCells (arr w 3 s) i (2 * nI N) = 0 := by
        unfold lFt at hf
        rw [if_neg (not_not_intro ha1)] at hf; exact hf
      by_cases h0 : 0 < fld w 7 0
      · rcases hSI.at hs with ⟨q1, q2⟩ | ⟨q1, q2, q3, M, q4, q5, q6, q7⟩
        · exact absurd ha1 (by unfold fRow; rw [if_pos q1]; decide)
        · have hfc := ha2
          unfold fCells at hfc
          have hin : 0 ≤ i.toInt ∧ 0 ≤ (2 * nI N).toInt ∧ i.toInt + (2 * nI N).toInt ≤ (arr w 3 s).toInt := by
            by_cases z : 0 ≤ i.toInt ∧ 0 ≤ (2 * nI N).toInt ∧ i.toInt + (2 * nI N).toInt ≤ (arr w 3 s).toInt
            · exact z
            · rw [if_neg z] at hfc; exact absurd hfc (by decide)
          rw [q5, i2, nI_toInt (by omega), nI_toInt (by omega)] at hin
          obtain ⟨i0, hi0, rfl⟩ := nI_of (x := i) (by rw [i_lt, il_0]; omega)
          rw [nI_toInt hi0] at hin
          have hi : i0 + 2 * N ≤ M := by omega
          refine mC.mono (c_X7_season_m (d := d + 14) hS hs hc hN ha1 ha2 h0 tb h1 tw h2 q5 q4 hi) ?_
          rintro _ w1 ⟨rfl, hSw1, g, hf1⟩
          have b5 : fld w1 44 5 = fld w 7 0 := by rw [g.2 44 5 (by decide), e1]
          have b6 : fld w1 44 6 = fld w 7 1 := by rw [g.2 44 6 (by decide), e2]
          have c48 : arr w1 48 = arr w 8 := by rw [g.1 48 (by decide), f8]
          have c49 : arr w1 49 = arr w 9 := by rw [g.1 49 (by decide), f9]
          have c50 : arr w1 50 = arr w 10 := by rw [g.1 50 (by decide), f10]
          have c51 : arr w1 51 = arr w 11 := by rw [g.1 51 (by decide), f11]
          have c52 : arr w1 52 = arr w 12 := by rw [g.1 52 (by decide), f12]
          have c53 : arr w1 53 = arr w 13 := by rw [g.1 53 (by decide), f13]
          have c54 : arr w1 54 = arr w 14 := by rw [g.1 54 (by decide), f14]
          have c55 : arr w1 55 = arr w 15 := by rw [g.1 55 (by decide), f15]
          have c56 : arr w1 56 = arr w 16 := by rw [g.1 56 (by decide), f16]
          have cC1 : ∀ t, t < 2 * N → arr w1 47 (60 * s + i0 + t) = cC w s i0 t := fun t ht => by
            rw [g.1 47 (by decide), Nat.add_assoc, q7 (i0 + t) (by omega)]
          have k := c_X8_season_m (d := d + 14) (w := w1) (l := l) (x := x) (s := s) (i0 := i0) (n := N) (nb := nb) (nw := nw) hSw1 hs hcM hN (by rw [g.1 45 (by decide), g.1 46 (by decide), hag]; exact hf) (by rw [b5]; rw [i_lt, il_0] at h0; rw [i_eq, il_0]; omega) (by rw [b5]; exact tb) h1 (by rw [b6]; exact tw) h2 (by rw [c48, c49, c50, c51]; exact hB) (by rw [c52, c53, c54, c55]; exact hW) (by omega)
          have er : rfN (rfM w1 (60 * s + i0)) N = rfN (rfF w s i0) N := rfN_congr (fun t ht => by
            show refE _ _ (arr w1 47 (60 * s + i0 + 2 * t)) (arr w1 47 (60 * s + i0 + (2 * t + 1))) = _
            rw [b5, b6, cC1 _ (by omega), cC1 _ (by omega)])
          have eG : mG w1 nw (60 * s + i0) N = cG w nw s i0 N := by
            show sGo (fun t s' => sSt _ _ nw (arr w1 48) (arr w1 49) (arr w1 50) (arr w1 51) (arr w1 54) (arr w1 47 (60 * s + i0 + 2 * t)) (arr w1 47 (60 * s + i0 + (2 * t + 1))) s') N (arr w1 52, arr w1 53, arr w1 55, arr w1 56, 0) = _
            rw [b5, b6, c48, c49, c50, c51, c54, c52, c53, c55, c56]
            exact sGo_ext (fun t ht s' => by rw [cC1 _ (by omega), cC1 _ (by omega)])
          rw [er, eG, b6, c54] at k
          refine mC.mono k ?_
          rintro _ w2 ⟨rfl, hSw2, g2, hf2, ho⟩
          have gg : Gr [19, 20, 21, 22, 23, 24, 25, 26, 27, 28, 29, 59, 60, 61, 62] [(0, 8), (17, 3), (17, 4), (17, 5), (18, 0), (18, 1), (18, 2), (44, 0), (44, 26)] w w2 := (g.up (by decide) (by decide)).tr (g2.up (by decide) (by decide))
          refine ⟨?_, hI.junkZ hSw2 gg (by decide) (by decide) (by decide) (by decide) (by decide) (by decide) ?_⟩
          · by_cases hr : rfN (rfF w s i0) N = 0
            · rw [if_pos hr, if_pos hr, ans_eq (NB := fld w 7 0) tb h1 hc.2.2 (ho hr).1]
            · rw [if_neg hr, if_neg hr]
          · rw [hf2, g2.2 0 8 (by decide), hf1]
      · refine mC.mono (c_X7_season_s (d := d + 17) hS hs hc ha1 ha2 h0) ?_
        rintro _ w1 ⟨rfl, hq⟩
        subst hq
        refine mC.mono (c_X8_season_s (d := d + 18) (hS1 _) hs hcM (by rw [(g0 _).1 45 (by decide), (g0 _).1 46 (by decide), hag]; exact hf) (by rw [(g0 _).2 44 5 (by decide), e1]; rw [i_lt, il_0, tb] at h0; rw [i_eq, il_0, tb]; omega)) ?_
        rintro _ w2 ⟨rfl, hq⟩
        exact ⟨rfl, hI.fault rfl hq⟩
    · refine mC.mono (c_X7_season_f (d := d + 17) hS hs hc hf) ?_
      rintro _ w1 ⟨rfl, hq⟩
      have g : Gr [] [(0, 8)] w w1 := by rw [hq]; exact g0 _
      have hSw1 : Shape w1 := by rw [hq]; exact hS1 _
      refine mC.mono (c_X8_season_f (d := d + 18) hSw1 hs hcM (by rw [g.1 45 (by decide), g.1 46 (by decide), hag]; exact hf)) ?_
      rw [g.1 45 (by decide), g.1 46 (by decide), hag]
      rintro _ w2 ⟨rfl, hq2⟩
      exact ⟨rfl, hI.fault hq hq2⟩
  · refine mC.mono (c_X7_season_no (d := d + 18) hS hc) ?_
    rintro _ w1 ⟨rfl, hq⟩
    subst hq
    refine mC.mono (c_X8_season_no (d := d + 18) (hS1 _) (fun z => hc ⟨e3'.mpr z.1, z.2.1, z.2.2.1, isM_W.mp z.2.2.2⟩)) ?_
    simp only [e3']
    rintro _ w2 ⟨rfl, hq⟩
    exact ⟨rfl, hI.fault rfl hq⟩

