theorem both_copy {w : mW} (hI : Inv w) (k i o j n : Int32) : Both kX7_copy kX8_copy [.int k, .int i, .int o, .int j, .int n] w := by
  intro d
  obtain ⟨hS, nb, nw, nr, hD, hR, hSI, hT⟩ := id hI; obtain ⟨h1, h2, h3, tb, tw, hB, hW, ⟨e1, e2, e3⟩, f8, f9, f10, f11, f12, f13, f14, f15, f16⟩ := id hD
  have hS1 : ∀ x, Shape (setF w 0 8 x) := fun x => hS.stF rfl rfl _
  have g0 : ∀ x, Gr [] [(0, 8)] w (setF w 0 8 x) := fun x => Gr.rf.stF (by decide) _
  by_cases hko : (0 ≤ k ∧ k < 4) ∧ 0 ≤ o ∧ o < 4
  · obtain ⟨K, hK, rfl⟩ := in_nI (x := 4) (n := 4) rfl (by omega) hko.1
    obtain ⟨O, hO, rfl⟩ := in_nI (x := 4) (n := 4) rfl (by omega) hko.2
    have nul : (arr w 2 K = -1 ∨ arr w 2 O = -1) → (arr w 45 K = -9 ∨ arr w 45 O = -9) → mC (d + 20) kX7_copy [.ref 0, .int (nI K), .int i, .int (nI O), .int j, .int n] w (fun r w1 => mC (d + 20) kX8_copy [.ref 44, .int (nI K), .int i, .int (nI O), .int j, .int n] w1 (fun r' w2 => r' = r ∧ Inv w2)) := by
      intro z1 z2
      have e : fPair (arr w 2 K) (arr w 2 O) = 1 := by unfold fPair; rw [if_pos z1]
      refine mC.mono (c_X7_copy_b (d := d + 17) hS hK hO (by rw [e]; decide)) ?_
      rw [e]
      rintro _ w1 ⟨rfl, hq⟩
      subst hq
      refine mC.mono (c_X8_copy_n (d := d + 17) (hS1 _) hK hO (by rw [(g0 _).1 45 (by decide)]; exact z2)) ?_
      rintro _ w2 ⟨rfl, hq⟩
      exact ⟨rfl, hI.fault rfl hq⟩
    rcases hSI.at hK with ⟨p1, p2⟩ | ⟨p1, p2, p3, a, p4, p5, p6, p7⟩
    · exact nul (Or.inl p1) (Or.inl p2)
    · rcases hSI.at hO with ⟨q1, q2⟩ | ⟨q1, q2, q3, b, q4, q5, q6, q7⟩
      · exact nul (Or.inr q1) (Or.inr q2)
      · by_cases hL : arr w 2 K = arr w 2 O
        · have e : fPair (arr w 2 K) (arr w 2 O) = 0 := by unfold fPair; rw [if_neg (fun z => z.elim p1 q1), if_pos hL]
          have hL' : arr w 45 K = arr w 45 O := by rw [p3, q3, hL]
          have bad : ¬ (0 ≤ i.toInt ∧ 0 ≤ j.toInt ∧ 0 ≤ n.toInt ∧ i.toInt + n.toInt ≤ (a : Int) ∧ j.toInt + n.toInt ≤ (b : Int)) → mC (d + 20) kX8_copy [.ref 44, .int (nI K), .int i, .int (nI O), .int j, .int n] (setF w 0 8 3) (fun r' w2 => r' = some (.int (-13)) ∧ Inv w2) := by
            intro hb
            refine mC.mono (c_X8_copy_c (d := d + 17) (a := a) (b := b) (hS1 _) hK hO (by rw [(g0 _).1 45 (by decide)]; exact p2) (by rw [(g0 _).1 45 (by decide)]; exact q2) (by rw [(g0 _).1 45 (by decide)]; exact hL') (by rw [(g0 _).1 46 (by decide), p6, nI_toInt (by omega)]) p4 (by rw [(g0 _).1 46 (by decide), q6, nI_toInt (by omega)]) q4 hb) ?_
            rintro _ w2 ⟨rfl, hq⟩
            exact ⟨rfl, hI.fault rfl hq⟩
          by_cases c1 : 0 ≤ i.toInt ∧ 0 ≤ n.toInt ∧ i.toInt + n.toInt ≤ (arr w 3 K).toInt
          · have f1 : fCells (arr w 3 K) i n = 0 := by unfold fCells; rw [if_pos c1]
            rw [p5, nI_toInt (by omega)] at c1
            by_cases c2 : 0 ≤ j.toInt ∧ 0 ≤ n.toInt ∧ j.toInt + n.toInt ≤ (arr w 3 O).toInt
            · rw [q5, nI_toInt (by omega)] at c2
              obtain ⟨I, hIl, rfl⟩ : ∃ I : Nat, I ≤ 60 ∧ i = nI I := ⟨i.toInt.toNat, by omega, nI_ofT (by omega) (by omega)⟩
              obtain ⟨J, hJl, rfl⟩ : ∃ J : Nat, J ≤ 60 ∧ j = nI J := ⟨j.toInt.toNat, by omega, nI_ofT (by omega) (by omega)⟩
              obtain ⟨N, hNl, rfl⟩ : ∃ N : Nat, N ≤ 60 ∧ n = nI N := ⟨n.toInt.toNat, by omega, nI_ofT (by omega) (by omega)⟩
              rw [nI_toInt (by omega), nI_toInt (by omega)] at c1 c2
              refine mC.mono (c_X7_copy_d (d := d + 17) (i := I) (j := J) (n := N) hS hK hO e p5 p4 (by omega) q5 q4 (by omega)) ?_
              rintro _ w1 ⟨rfl, hq⟩
              have sx0 := hS1 0
              have hSw1 : Shape w1 := by rw [hq]; exact sx0.stA _ _
              have g1 : Gr [4] [(0, 8)] w w1 := by rw [hq]; exact (Gr.rf.stF (by decide) _).stA (by decide) _
              have a4 : arr w1 4 = va_cpy (arr w 4) (arr w 4) (60 * K + I) (60 * O + J) N := by rw [hq, arr_setA sx0 rfl]
              have af : fld w1 0 8 = 0 := by rw [hq, fld_setA, fld_setF hS rfl rfl]
              refine mC.mono (c_X8_copy_d (d := d + 17) (i := I) (j := J) (n := N) (a := a) (b := b) hSw1 hK hO (by rw [g1.1 45 (by decide)]; exact p2) (by rw [g1.1 45 (by decide)]; exact q2) (by rw [g1.1 45 (by decide)]; exact hL') (by rw [g1.1 46 (by decide)]; exact p6) p4 (by omega) (by rw [g1.1 46 (by decide)]; exact q6) q4 (by omega)) ?_
              rw [g1.1 47 (by decide)]
              rintro _ w2 ⟨rfl, hq2⟩
              have sy0 : Shape (setF w1 44 0 0) := hSw1.stF rfl rfl _
              have hSw2 : Shape w2 := by rw [hq2]; exact sy0.stA _ _
              have g2 : Gr [47] [(44, 0)] w1 w2 := by rw [hq2]; exact (Gr.rf.stF (by decide) _).stA (by decide) _
              have b47 : arr w2 47 = va_cpy (arr w 47) (arr w 47) (60 * K + I) (60 * O + J) N := by rw [hq2, arr_setA sy0 rfl]
              have bf : fld w2 44 0 = 0 := by rw [hq2, fld_setA, fld_setF hSw1 rfl rfl]
              have g : Gr [2, 3, 4, 45, 46, 47] [(0, 8), (44, 0)] w w2 := (g1.up (by decide) (by decide)).tr (g2.up (by decide) (by decide))
              refine ⟨rfl, hI.sheets hSw2 g (by rw [bf, g2.2 0 8 (by decide), af]) ?_⟩
              intro s hs
              rw [g2.1 2 (by decide), g1.1 2 (by decide), g2.1 3 (by decide), g1.1 3 (by decide), g2.1 4 (by decide), a4, g2.1 45 (by decide), g1.1 45 (by decide), g2.1 46 (by decide), g1.1 46 (by decide), b47]
              rcases hSI s hs with z | ⟨z1, z2, z3, z4, m, z5, z6, z7⟩
              · exact Or.inl z
              · refine Or.inr ⟨z1, z2, z3, z4, m, z5, z6, fun x hx => ?_⟩
                unfold va_cpy
                split
                · rename_i hin
                  have e9 : 60 * K + I + (60 * s + x - (60 * O + J)) = 60 * K + (I + (60 * s + x - (60 * O + J))) := by omega
                  rw [e9]
                  exact p7 _ (by omega)
                · exact z7 x hx
            · have f2 : fCells (arr w 3 O) j n = 3 := by unfold fCells; rw [if_neg c2]
              rw [q5, nI_toInt (by omega)] at c2
              refine mC.mono (c_X7_copy_e (d := d + 17) hS hK hO e f1 f2) ?_
              rintro _ w1 ⟨rfl, hq⟩
              subst hq
              exact bad (by omega)
          · have f1 : fCells (arr w 3 K) i n = 3 := by unfold fCells; rw [if_neg c1]
            rw [p5, nI_toInt (by omega)] at c1
            refine mC.mono (c_X7_copy_c (d := d + 17) hS hK hO e f1) ?_
            rintro _ w1 ⟨rfl, hq⟩
            subst hq
            exact bad (by omega)
        · have e : fPair (arr w 2 K) (arr w 2 O) = 2 := by unfold fPair; rw [if_neg (fun z => z.elim p1 q1), if_neg hL]
          refine mC.mono (c_X7_copy_b (d := d + 17) hS hK hO (by rw [e]; decide)) ?_
          rw [e]
          rintro _ w1 ⟨rfl, hq⟩
          subst hq
          refine mC.mono (c_X8_copy_b (d := d + 17) (hS1 _) hK hO (by rw [(g0 _).1 45 (by decide)]; exact p2) (by rw [(g0 _).1 45 (by decide)]; exact q2) (by rw [(g0 _).1 45 (by decide), p3, q3]; exact hL)) ?_
          rintro _ w2 ⟨rfl, hq⟩
          exact ⟨rfl, hI.fault rfl hq⟩
  · refine mC.mono (c_X7_copy_a (d := d + 17) hS hko) ?_
    rintro _ w1 ⟨rfl, hq⟩
    subst hq
    refine mC.mono (c_X8_copy_a (d := d + 17) (hS1 _) hko) ?_
    rintro _ w2 ⟨rfl, hq⟩
    exact ⟨rfl, hI.fault rfl hq⟩

