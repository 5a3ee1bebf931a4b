-- sheet, lose, put, cell: both
/-- the invariant behind two calls that change sheets and faults alone -/
theorem Inv.sheets {w w2 : mW} (hI : Inv w) (hS2 : Shape w2) (g : Gr [2, 3, 4, 45, 46, 47] [(0, 8), (44, 0)] w w2) (hf : fld w2 44 0 = fld w2 0 8) (hSI : SI w2) : Inv w2 := by
  obtain ⟨hS, nb, nw, nr, hD, hR, _, hT⟩ := hI
  refine ⟨hS2, nb, nw, nr, hD.gr g (by decide) (by decide), hR.gr g (by decide) (by decide), hSI, hf, ?_⟩
  rw [g.2 44 1 (by decide), g.2 0 7 (by decide)]; exact hT.2
theorem SI.of {w w2 : mW} (h : SI w) (k : Nat) (hk : (arr w2 2 k = -1 ∧ arr w2 45 k = -9) ∨ (0 ≤ (arr w2 2 k).toInt ∧ (arr w2 2 k).toInt ≤ 2 ∧ arr w2 45 k = arr w2 2 k ∧ arr w2 46 k = arr w2 3 k ∧ ∃ n : Nat, n ≤ 60 ∧ arr w2 3 k = nI n ∧ ∀ i, i < n → arr w2 47 (60 * k + i) = arr w2 4 (60 * k + i)))
    (ho : ∀ j, j < 4 → j ≠ k → arr w2 2 j = arr w 2 j ∧ arr w2 3 j = arr w 3 j ∧ arr w2 45 j = arr w 45 j ∧ arr w2 46 j = arr w 46 j ∧ ∀ i, i < 60 → arr w2 4 (60 * j + i) = arr w 4 (60 * j + i) ∧ arr w2 47 (60 * j + i) = arr w 47 (60 * j + i)) : SI w2 := by
  intro j hj
  by_cases e : j = k
  · subst e; exact hk
  · obtain ⟨a, b, c, dd, f⟩ := ho j hj e
    rw [a, b, c, dd]
    rcases h j hj with q | ⟨q1, q2, q3, q4, n, q5, q6, q7⟩
    · exact Or.inl q
    · exact Or.inr ⟨q1, q2, q3, q4, n, q5, q6, fun i hi => by rw [(f i (by omega)).1, (f i (by omega)).2]; exact q7 i hi⟩
theorem zer_o {f : Nat → Int32} {j k i n : Nat} (hn : n ≤ 60) (hi : i < 60) (h : j ≠ k) : zer f (60 * k) n (60 * j + i) = f (60 * j + i) := by
  unfold zer; rw [if_neg (by omega)]
theorem zer_i {f : Nat → Int32} {k i n : Nat} (hi : i < n) : zer f (60 * k) n (60 * k + i) = 0 := by
  unfold zer; rw [if_pos (by omega)]
theorem both_sheet {w : mW} (hI : Inv w) (k l n : Int32) : Both kX7_sheet kX8_sheet [.int k, .int l, .int n] w := by
  intro d
  obtain ⟨hS, nb, nw, nr, hD, hR, hSI, hT⟩ := id hI; obtain ⟨h1, h2, h3, tb, tw, hB, hW, ⟨e1, e2, e3⟩, f8, f9, f10, f11, f12, f13, f14, f15, f16⟩ := id hD
  have hS1 : ∀ x, Shape (setF w 0 8 x) := fun x => hS.stF rfl rfl _
  by_cases hk : 0 ≤ k ∧ k < 4
  · obtain ⟨j, hj, rfl⟩ := in_nI (x := 4) (n := 4) rfl (by omega) hk
    by_cases hl : (0 ≤ l ∧ l ≤ 2) ∧ n ≤ 60
    · by_cases hn : n < 0
      · refine mC.mono (c_X7_sheet_c (d := d + 18) hS hj hl hn) ?_
        rintro _ w1 ⟨rfl, hq⟩
        subst hq
        refine mC.mono (c_X8_sheet_c (d := d + 18) (hS1 _) hj hl hn) ?_
        rintro _ w2 ⟨rfl, hq⟩
        exact ⟨rfl, hI.fault rfl hq⟩
      · obtain ⟨N, hN, rfl⟩ : ∃ N : Nat, N ≤ 60 ∧ n = nI N := nI_of2 (M := 60) (n := 60) rfl hn hl.2
        refine mC.mono (c_X7_sheet_d (d := d + 18) hS hj hl.1 hN) ?_
        rintro _ w1 ⟨rfl, hq⟩
        have sx0 := hS1 0
        have sx1 := sx0.stA 2 (upd (arr w 2) j l)
        have sx2 := sx1.stA 3 (upd (arr w 3) j (nI N))
        have hSw1 : Shape w1 := by rw [hq]; exact sx2.stA _ _
        have g1 : Gr [2, 3, 4] [(0, 8)] w w1 := by rw [hq]; exact (((Gr.rf.stF (by decide) _).stA (by decide) _).stA (by decide) _).stA (by decide) _
        have a2 : arr w1 2 = upd (arr w 2) j l := by rw [hq, arr_setA_a (by decide), arr_setA_a (by decide), arr_setA sx0 rfl]
        have a3 : arr w1 3 = upd (arr w 3) j (nI N) := by rw [hq, arr_setA_a (by decide), arr_setA sx1 rfl]
        have a4 : arr w1 4 = zer (arr w 4) (60 * j) N := by rw [hq, arr_setA sx2 rfl]
        have af : fld w1 0 8 = 0 := by rw [hq, fld_setA, fld_setA, fld_setA, fld_setF hS rfl rfl]
        refine mC.mono (c_X8_sheet_d (d := d + 18) hSw1 hj hl.1 hN) ?_
        rintro _ w2 ⟨rfl, hq2⟩
        have sy0 : Shape (setF w1 44 0 0) := hSw1.stF rfl rfl _
        have sy1 := sy0.stA 45 (upd (arr w1 45) j l)
        have sy2 := sy1.stA 46 (upd (arr w1 46) j (nI N))
        have hSw2 : Shape w2 := by rw [hq2]; exact sy2.stA _ _
        have g2 : Gr [45, 46, 47] [(44, 0)] w1 w2 := by rw [hq2]; exact (((Gr.rf.stF (by decide) _).stA (by decide) _).stA (by decide) _).stA (by decide) _
        have b45 : arr w2 45 = upd (arr w 45) j l := by rw [hq2, arr_setA_a (by decide), arr_setA_a (by decide), arr_setA sy0 rfl, g1.1 45 (by decide)]
        have b46 : arr w2 46 = upd (arr w 46) j (nI N) := by rw [hq2, arr_setA_a (by decide), arr_setA sy1 rfl, g1.1 46 (by decide)]
        have b47 : arr w2 47 = zer (arr w 47) (60 * j) 60 := by rw [hq2, arr_setA sy2 rfl, g1.1 47 (by decide)]
        have bf : fld w2 44 0 = 0 := by rw [hq2, fld_setA, fld_setA, fld_setA, fld_setF hSw1 rfl rfl]
        have g : Gr [2, 3, 4, 45, 46, 47] [(0, 8), (44, 0)] w w2 := (g1.up (by decide) (by decide)).tr (g2.up (by decide) (by decide))
        refine ⟨rfl, hI.sheets hSw2 g (by rw [bf, g2.2 0 8 (by decide), af]) (hSI.of j ?_ ?_)⟩
        · refine Or.inr ?_
          rw [g2.1 2 (by decide), g2.1 3 (by decide), g2.1 4 (by decide), a2, a3, a4, b45, b46, b47, pk_us, pk_us, pk_us, pk_us]
          refine ⟨by (try simp only [b2_e0, b2_n0, Decidable.not_not] at *) <;> (try simp only [i_lt, i_le, i_eq, not_and, not_or, ne_eq, il_0, il_1, il_2, il_3, il_4, il_5, il_6, il_7, il_8, il_9, il_10, il_14, il_15, il_19, il_20, il_24, il_30, il_31, il_44, il_48, il_49, il_52, il_57, il_59, il_60, il_70, il_99, il_100, il_103, il_108, il_114, il_m1, il_m2, il_m3, il_m4, il_m9, il_m10, il_m100] at *) <;> omega, by (try simp only [b2_e0, b2_n0, Decidable.not_not] at *) <;> (try simp only [i_lt, i_le, i_eq, not_and, not_or, ne_eq, il_0, il_1, il_2, il_3, il_4, il_5, il_6, il_7, il_8, il_9, il_10, il_14, il_15, il_19, il_20, il_24, il_30, il_31, il_44, il_48, il_49, il_52, il_57, il_59, il_60, il_70, il_99, il_100, il_103, il_108, il_114, il_m1, il_m2, il_m3, il_m4, il_m9, il_m10, il_m100] at *) <;> omega, rfl, rfl, N, hN, rfl, fun i hi => ?_⟩
          rw [zer_i hi, zer_i (by omega)]
        · intro i hi hne
          rw [g2.1 2 (by decide), g2.1 3 (by decide), g2.1 4 (by decide), a2, a3, a4, b45, b46, b47, pk_un hne, pk_un hne, pk_un hne, pk_un hne]
          exact ⟨rfl, rfl, rfl, rfl, fun t ht => ⟨zer_o hN ht hne, zer_o (by omega) ht hne⟩⟩
    · refine mC.mono (c_X7_sheet_b (d := d + 18) hS hj hl) ?_
      rintro _ w1 ⟨rfl, hq⟩
      subst hq
      refine mC.mono (c_X8_sheet_b (d := d + 18) (hS1 _) hj hl) ?_
      rintro _ w2 ⟨rfl, hq⟩
      exact ⟨rfl, hI.fault rfl hq⟩
  · refine mC.mono (c_X7_sheet_a (d := d + 18) hS hk) ?_
    rintro _ w1 ⟨rfl, hq⟩
    subst hq
    refine mC.mono (c_X8_sheet_a (d := d + 18) (hS1 _) hk) ?_
    rintro _ w2 ⟨rfl, hq⟩
    exact ⟨rfl, hI.fault rfl hq⟩
/-- of a sheet: nothing in both, or the same row in both -/
theorem SI.at {w : mW} (h : SI w) {k : Nat} (hk : k < 4) : (arr w 2 k = -1 ∧ arr w 45 k = -9) ∨ (¬ arr w 2 k = -1 ∧ ¬ arr w 45 k = -9 ∧ arr w 45 k = arr w 2 k ∧ ∃ n : Nat, n ≤ 60 ∧ arr w 3 k = nI n ∧ arr w 46 k = nI n ∧ ∀ i, i < n → arr w 47 (60 * k + i) = arr w 4 (60 * k + i)) := by
  rcases h k hk with q | ⟨q1, q2, q3, q4, n, q5, q6, q7⟩
  · exact Or.inl q
  · refine Or.inr ⟨?_, ?_, q3, n, q5, q6, q4.trans q6, q7⟩
    · rw [i_eq, il_m1]; omega
    · rw [q3, i_eq, il_m9]; omega
theorem both_lose {w : mW} (hI : Inv w) (k : Int32) : Both kX7_lose kX8_lose [.int k] w := by
  intro d
  obtain ⟨hS, nb, nw, nr, hD, hR, hSI, hT⟩ := id hI; obtain ⟨h1, h2, h3, tb, tw, hB, hW, ⟨e1, e2, e3⟩, f8, f9, f10, f11, f12, f13, f14, f15, f16⟩ := id hD
  by_cases hk : 0 ≤ k ∧ k < 4
  · obtain ⟨j, hj, rfl⟩ := in_nI (x := 4) (n := 4) rfl (by omega) hk
    rcases hSI.at hj with ⟨q1, q2⟩ | ⟨q1, q2, q3, n, q4, q5, q6, q7⟩
    · refine mC.mono (c_X7_lose_b (d := d + 18) hS hj q1) ?_
      rintro _ _ ⟨rfl, hq⟩; obtain rfl := hq.symm
      refine mC.mono (c_X8_lose_b (d := d + 18) hS hj) ?_
      rw [if_pos q2]
      have e : upd (arr w 45) j (-9) = arr w 45 := by rw [← q2]; exact upd_self _ _
      rw [e, setA_self hS rfl]
      rintro _ _ ⟨rfl, hq⟩; obtain rfl := hq.symm
      exact ⟨rfl, hI⟩
    · refine mC.mono (c_X7_lose_c (d := d + 18) hS hj q1) ?_
      rintro _ w1 ⟨rfl, hq⟩
      have sx1 := hS.stA 2 (upd (arr w 2) j (-1))
      have hSw1 : Shape w1 := by rw [hq]; exact sx1.stA _ _
      have g1 : Gr [2, 3] [] w w1 := by rw [hq]; exact (Gr.rf.stA (by decide) _).stA (by decide) _
      have a2 : arr w1 2 = upd (arr w 2) j (-1) := by rw [hq, arr_setA_a (by decide), arr_setA hS rfl]
      have a3 : arr w1 3 = upd (arr w 3) j 0 := by rw [hq, arr_setA sx1 rfl]
      refine mC.mono (c_X8_lose_b (d := d + 18) hSw1 hj) ?_
      rw [g1.1 45 (by decide), if_neg q2]
      rintro _ w2 ⟨rfl, hq2⟩
      have hSw2 : Shape w2 := by rw [hq2]; exact hSw1.stA _ _
      have g2 : Gr [45] [] w1 w2 := by rw [hq2]; exact Gr.rf.stA (by decide) _
      have b45 : arr w2 45 = upd (arr w 45) j (-9) := by rw [hq2, arr_setA hSw1 rfl]
      have g : Gr [2, 3, 4, 45, 46, 47] [(0, 8), (44, 0)] w w2 := (g1.up (by decide) (by decide)).tr (g2.up (by decide) (by decide))
      refine ⟨rfl, hI.sheets hSw2 g ?_ (hSI.of j ?_ ?_)⟩
      · rw [g2.2 44 0 (by decide), g1.2 44 0 (by decide), g2.2 0 8 (by decide), g1.2 0 8 (by decide)]; exact hT.1
      · refine Or.inl ?_
        rw [g2.1 2 (by decide), a2, b45, pk_us, pk_us]
        exact ⟨rfl, rfl⟩
      · intro i hi hne
        rw [g2.1 2 (by decide), g2.1 3 (by decide), g2.1 4 (by decide), g1.1 4 (by decide), a2, a3, b45, g2.1 46 (by decide), g1.1 46 (by decide), g2.1 47 (by decide), g1.1 47 (by decide), pk_un hne, pk_un hne, pk_un hne]
        exact ⟨rfl, rfl, rfl, rfl, fun t ht => ⟨rfl, rfl⟩⟩
  · refine mC.mono (c_X7_lose_a (d := d + 18) hS hk) ?_
    rintro _ _ ⟨rfl, hq⟩; obtain rfl := hq.symm
    refine mC.mono (c_X8_lose_a (d := d + 18) hS hk) ?_
    rintro _ _ ⟨rfl, hq⟩; obtain rfl := hq.symm
    exact ⟨rfl, hI⟩
theorem inS {n i : Nat} (hn : n ≤ 60) (hi : i < n) : (0 : Int32) ≤ nI i ∧ nI i ≤ nI n - 1 := by
  refine ⟨nI_pos' (by omega), ?_⟩
  obtain ⟨m, rfl⟩ : ∃ m, n = m + 1 := ⟨n - 1, by omega⟩
  rw [nI_pred]
  exact nI_le (by omega) (by omega)
theorem outS {n : Nat} {i : Int32} (hn : n ≤ 60) (hi : ∀ j, j < n → i ≠ nI j) : ¬ ((0 : Int32) ≤ i ∧ i ≤ nI n - 1) := by
  intro q
  obtain ⟨j, hj, e⟩ : ∃ j, j < n ∧ i = nI j := by
    refine in_nI (x := nI n) (nI_toInt (by omega)) (by omega) ⟨q.1, ?_⟩
    have h1 : (nI n - 1).toInt = (n : Int) - 1 := by
      have := @i_sub (nI n) 1 (by rw [nI_toInt (by omega), il_1]; omega) (by rw [nI_toInt (by omega), il_1]; omega)
      rw [nI_toInt (by omega), il_1] at this
      exact this
    have := i_le.mp q.2
    rw [i_lt, nI_toInt (by omega)]
    omega
  exact hi j hj e
theorem both_put {w : mW} (hI : Inv w) (k i v : Int32) : Both kX7_put kX8_put [.int k, .int i, .int v] w := by
  intro d
  obtain ⟨hS, nb, nw, nr, hD, hR, hSI, hT⟩ := id hI; obtain ⟨h1, h2, h3, tb, tw, hB, hW, ⟨e1, e2, e3⟩, f8, f9, f10, f11, f12, f13, f14, f15, f16⟩ := id hD
  have hS1 : ∀ x, Shape (setF w 0 8 x) := fun x => hS.stF rfl rfl _
  have g0 : ∀ x, Gr [] [(0, 8)] w (setF w 0 8 x) := fun x => Gr.rf.stF (by decide) _
  by_cases hk : 0 ≤ k ∧ k < 4
  · obtain ⟨j, hj, rfl⟩ := in_nI (x := 4) (n := 4) rfl (by omega) hk
    rcases hSI.at hj with ⟨q1, q2⟩ | ⟨q1, q2, q3, n, q4, q5, q6, q7⟩
    · refine mC.mono (c_X7_put_b (d := d + 18) hS hj q1) ?_
      rintro _ w1 ⟨rfl, hq⟩
      subst hq
      refine mC.mono (c_X8_put_b (d := d + 18) (hS1 _) hj (by rw [(g0 _).1 45 (by decide)]; exact q2)) ?_
      rintro _ w2 ⟨rfl, hq⟩
      exact ⟨rfl, hI.fault rfl hq⟩
    · by_cases hi : ∃ t, t < n ∧ i = nI t
      · obtain ⟨t, ht, rfl⟩ := hi
        refine mC.mono (c_X7_put_d (d := d + 17) hS hj q1 q5 q4 ht) ?_
        rintro _ w1 ⟨rfl, hq⟩
        have sx0 := hS1 0
        have hSw1 : Shape w1 := by rw [hq]; exact sx0.stA _ _
        have g1 : Gr [4] [(0, 8)] w w1 := by rw [hq]; exact (Gr.rf.stF (by decide) _).stA (by decide) _
        have a4 : arr w1 4 = upd (arr w 4) (60 * j + t) (cutE v (arr w 2 j)) := by rw [hq, arr_setA sx0 rfl]
        have af : fld w1 0 8 = 0 := by rw [hq, fld_setA, fld_setF hS rfl rfl]
        refine mC.mono (c_X8_put_d (d := d + 18) hSw1 hj (by rw [g1.1 45 (by decide)]; exact q2) (by rw [g1.1 46 (by decide), q6]; exact inS q4 ht) (by omega)) ?_
        rw [g1.1 45 (by decide), g1.1 47 (by decide), q3]
        rintro _ w2 ⟨rfl, hq2⟩
        have sy0 : Shape (setF w1 44 0 0) := hSw1.stF rfl rfl _
        have hSw2 : Shape w2 := by rw [hq2]; exact sy0.stA _ _
        have g2 : Gr [47] [(44, 0)] w1 w2 := by rw [hq2]; exact (Gr.rf.stF (by decide) _).stA (by decide) _
        have b47 : arr w2 47 = upd (arr w 47) (60 * j + t) (cutE v (arr w 2 j)) := by rw [hq2, arr_setA sy0 rfl]
        have bf : fld w2 44 0 = 0 := by rw [hq2, fld_setA, fld_setF hSw1 rfl rfl]
        have g : Gr [2, 3, 4, 45, 46, 47] [(0, 8), (44, 0)] w w2 := (g1.up (by decide) (by decide)).tr (g2.up (by decide) (by decide))
        refine ⟨rfl, hI.sheets hSw2 g (by rw [bf, g2.2 0 8 (by decide), af]) ?_⟩
        intro s hs
        rw [g2.1 2 (by decide), g1.1 2 (by decide), g2.1 3 (by decide), g1.1 3 (by decide), g2.1 4 (by decide), a4, g2.1 45 (by decide), g1.1 45 (by decide), g2.1 46 (by decide), g1.1 46 (by decide), b47]
        rcases hSI s hs with z | ⟨z1, z2, z3, z4, m, z5, z6, z7⟩
        · exact Or.inl z
        · refine Or.inr ⟨z1, z2, z3, z4, m, z5, z6, fun x hx => ?_⟩
          unfold upd
          split
          · rfl
          · exact z7 x hx
      · have hi' : ∀ t, t < n → i ≠ nI t := fun t ht e => hi ⟨t, ht, e⟩
        refine mC.mono (c_X7_put_c (d := d + 18) hS hj q1 (fCell_3 q5 q4 hi')) ?_
        rintro _ w1 ⟨rfl, hq⟩
        subst hq
        refine mC.mono (c_X8_put_c (d := d + 18) (hS1 _) hj (by rw [(g0 _).1 45 (by decide)]; exact q2) (by rw [(g0 _).1 46 (by decide), q6]; exact outS q4 hi')) ?_
        rintro _ w2 ⟨rfl, hq⟩
        exact ⟨rfl, hI.fault rfl hq⟩
  · refine mC.mono (c_X7_put_a (d := d + 18) hS hk) ?_
    rintro _ w1 ⟨rfl, hq⟩
    subst hq
    refine mC.mono (c_X8_put_a (d := d + 18) (hS1 _) hk) ?_
    rintro _ w2 ⟨rfl, hq⟩
    exact ⟨rfl, hI.fault rfl hq⟩
/-- the same, the answer being a long -/
def BothL (MX MM : mM) (av : List Value) (w : mW) : Prop := ∀ d, mC (d + 20) MX (.ref 0 :: av) w (fun r w1 => (∃ y, r = some (.long y)) ∧ mC (d + 20) MM (.ref 44 :: av) w1 (fun r' w2 => r' = r ∧ Inv w2))
theorem both_cell {w : mW} (hI : Inv w) (k i l : Int32) : BothL kX7_cell kX8_cell [.int k, .int i, .int l] w := by
  intro d
  obtain ⟨hS, nb, nw, nr, hD, hR, hSI, hT⟩ := id hI; obtain ⟨h1, h2, h3, tb, tw, hB, hW, ⟨e1, e2, e3⟩, f8, f9, f10, f11, f12, f13, f14, f15, f16⟩ := id hD
  have hS1 : ∀ x, Shape (setF w 0 8 x) := fun x => hS.stF rfl rfl _
  have g0 : ∀ x, Gr [] [(0, 8)] w (setF w 0 8 x) := fun x => Gr.rf.stF (by decide) _
  by_cases hkl : (0 ≤ k ∧ k < 4) ∧ 0 ≤ l ∧ l ≤ 2
  · obtain ⟨hk, hl⟩ := hkl
    obtain ⟨j, hj, rfl⟩ := in_nI (x := 4) (n := 4) rfl (by omega) hk
    rcases hSI.at hj with ⟨q1, q2⟩ | ⟨q1, q2, q3, n, q4, q5, q6, q7⟩
    · have e : fRow (arr w 2 j) l = 1 := by unfold fRow; rw [if_pos q1]
      refine mC.mono (c_X7_cell_b (d := d + 17) hS hj hl (by rw [e]; decide)) ?_
      rw [e]
      rintro _ w1 ⟨rfl, hq⟩
      subst hq
      refine ⟨⟨_, rfl⟩, ?_⟩
      refine mC.mono (c_X8_cell_n (d := d + 18) (hS1 _) hj hl (by rw [(g0 _).1 45 (by decide)]; exact q2)) ?_
      rintro _ w2 ⟨rfl, hq⟩
      exact ⟨rfl, hI.fault rfl hq⟩
    · by_cases hL : arr w 2 j = l
      · have e : fRow (arr w 2 j) l = 0 := by unfold fRow; rw [if_neg q1, if_pos hL]
        by_cases hi : ∃ t, t < n ∧ i = nI t
        · obtain ⟨t, ht, rfl⟩ := hi
          refine mC.mono (c_X7_cell_d (d := d + 17) hS hj hl e q5 q4 ht) ?_
          rintro _ w1 ⟨rfl, hq⟩
          subst hq
          refine ⟨⟨_, rfl⟩, ?_⟩
          refine mC.mono (c_X8_cell_d (d := d + 18) (hS1 _) hj hl (by rw [(g0 _).1 45 (by decide)]; exact q2) (by rw [(g0 _).1 45 (by decide), q3]; exact hL) (by rw [(g0 _).1 46 (by decide), q6]; exact inS q4 ht) (by omega)) ?_
          rw [(g0 _).1 47 (by decide), q7 t ht]
          rintro _ w2 ⟨rfl, hq⟩
          exact ⟨rfl, hI.fault rfl hq⟩
        · have hi' : ∀ t, t < n → i ≠ nI t := fun t ht e => hi ⟨t, ht, e⟩
          refine mC.mono (c_X7_cell_c (d := d + 17) hS hj hl e (fCell_3 q5 q4 hi')) ?_
          rintro _ w1 ⟨rfl, hq⟩
          subst hq
          refine ⟨⟨_, rfl⟩, ?_⟩
          refine mC.mono (c_X8_cell_c (d := d + 18) (hS1 _) hj hl (by rw [(g0 _).1 45 (by decide)]; exact q2) (by rw [(g0 _).1 45 (by decide), q3]; exact hL) (by rw [(g0 _).1 46 (by decide), q6]; exact outS q4 hi')) ?_
          rintro _ w2 ⟨rfl, hq⟩
          exact ⟨rfl, hI.fault rfl hq⟩
      · have e : fRow (arr w 2 j) l = 2 := by unfold fRow; rw [if_neg q1, if_neg hL]
        refine mC.mono (c_X7_cell_b (d := d + 17) hS hj hl (by rw [e]; decide)) ?_
        rw [e]
        rintro _ w1 ⟨rfl, hq⟩
        subst hq
        refine ⟨⟨_, rfl⟩, ?_⟩
        refine mC.mono (c_X8_cell_b (d := d + 18) (hS1 _) hj hl (by rw [(g0 _).1 45 (by decide)]; exact q2) (by rw [(g0 _).1 45 (by decide), q3]; exact hL)) ?_
        rintro _ w2 ⟨rfl, hq⟩
        exact ⟨rfl, hI.fault rfl hq⟩
  · refine mC.mono (c_X7_cell_a (d := d + 17) hS hkl) ?_
    rintro _ w1 ⟨rfl, hq⟩
    subst hq
    refine ⟨⟨_, rfl⟩, ?_⟩
    refine mC.mono (c_X8_cell_a (d := d + 18) (hS1 _) hkl) ?_
    rintro _ w2 ⟨rfl, hq⟩
    exact ⟨rfl, hI.fault rfl hq⟩

