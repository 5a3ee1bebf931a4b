abbrev A3 : Type := (Nat → Int32) × (Nat → Int32) × (Nat → Int32)
def nSt (NB : Int32) (pe : Nat → Int32) (nw : Nat) : Nat → A3 → A3
  | 0, s => s
  | t + 1, s => (nMe NB pe (nSt NB pe nw t s).1 (nSt NB pe nw t s).2.1 nw, nLo NB pe (nSt NB pe nw t s).1 (nSt NB pe nw t s).2.1 nw, nCo NB pe (nSt NB pe nw t s).1 (nSt NB pe nw t s).2.1 (nSt NB pe nw t s).2.2 nw)
def nOut (NB : Int32) (pe : Nat → Int32) (nw : Nat) : Nat → A3 → Nat
  | 0, _ => 0
  | t + 1, s => nOut NB pe nw t s + cntN (outP NB pe (nSt NB pe nw t s).1 (nSt NB pe nw t s).2.1) nw
/-- the world behind t nights (but the nights' own number) -/
def NsAt (NB : Int32) (nw o aP aM aL aC : Nat) (w0 : mW) (t : Nat) (w : mW) : Prop := Shape w ∧ Fr [o, aM, aL, aC] w0 w ∧ (arr w aM, arr w aL, arr w aC) = nSt NB (arr w0 aP) nw t (arr w0 aM, arr w0 aL, arr w0 aC)
theorem NsAt.zero {NB : Int32} {nw o aP aM aL aC : Nat} {w0 : mW} (hS : Shape w0) : NsAt NB nw o aP aM aL aC w0 0 w0 := ⟨hS, Fr.rf, rfl⟩
theorem NsAt.out {NB : Int32} {nw o aP aM aL aC : Nat} {w0 w : mW} {t : Nat} (h : NsAt NB nw o aP aM aL aC w0 t w) (hP : aP ∉ [o, aM, aL, aC]) : nOut NB (arr w0 aP) nw t (arr w0 aM, arr w0 aL, arr w0 aC) + cntN (outP NB (arr w aP) (arr w aM) (arr w aL)) nw = nOut NB (arr w0 aP) nw (t + 1) (arr w0 aM, arr w0 aL, arr w0 aC) := by
  obtain ⟨_, hF, h3⟩ := h
  rw [hF.ar hP]
  show _ = nOut NB (arr w0 aP) nw t _ + cntN (outP NB (arr w0 aP) (nSt NB (arr w0 aP) nw t _).1 (nSt NB (arr w0 aP) nw t _).2.1) nw
  rw [← h3]
theorem NsAt.step {NB : Int32} {nw o aP aM aL aC : Nat} {w0 w w1 w2 : mW} {t : Nat} (h : NsAt NB nw o aP aM aL aC w0 t w) (hP : aP ∉ [o, aM, aL, aC]) (hN : nAt NB aP aM aL aC w nw w1) (hS2 : Shape w2) (hF2 : Fr [o] w1 w2) (ho : o ≠ aM ∧ o ≠ aL ∧ o ≠ aC) : NsAt NB nw o aP aM aL aC w0 (t + 1) w2 := by
  obtain ⟨hS, hF, h3⟩ := h
  obtain ⟨_, hF1, hM, hL, hC⟩ := hN
  refine ⟨hS2, fun a ha => ?_, ?_⟩
  · have h1 := hF a ha
    have h2 := hF1 a (fun q => ha (List.mem_cons_of_mem _ q))
    have h4 := hF2 a (fun q => ha (by rw [List.mem_singleton.mp q]; exact List.mem_cons_self))
    rw [h4, h2, h1]
  · unfold nSt
    rw [← h3, hF2.ar (by simp [Ne.symm ho.1]), hF2.ar (by simp [Ne.symm ho.2.1]), hF2.ar (by simp [Ne.symm ho.2.2]), hM, hL, hC, hF.ar hP]
theorem c_X0_passNights_7 {d : Nat} {w0 : mW} {nb nw N : Nat} (hS : Shape w0) (tb : (fld w0 7 0).toInt = (nb : Int)) (hnb : nb ≤ 5) (tw : (fld w0 7 1).toInt = (nw : Int)) (hnw : nw ≤ 5) (hNn : N ≤ 30) : mC (d + 2) kX0_passNights [.ref 7, .int (nI N)] w0 (fun r w' => r = some (.int (nI (nOut (fld w0 7 0) (arr w0 10) nw N (arr w0 12, arr w0 15, arr w0 16)))) ∧ NsAt (fld w0 7 0) nw 7 10 12 15 16 w0 N w' ∧ fld w' 7 0 = fld w0 7 0 ∧ fld w' 7 1 = fld w0 7 1 ∧ fld w' 7 2 = fld w0 7 2 + nI N) := by
  have lp : ∀ (m t : Nat) (v4 : Value) (w : mW), v4 = .null ∨ (∃ x, v4 = .int x) → NsAt (fld w0 7 0) nw 7 10 12 15 16 w0 t w → fld w 7 0 = fld w0 7 0 ∧ fld w 7 1 = fld w0 7 1 ∧ fld w 7 2 = fld w0 7 2 + nI t → t ≤ N → N < t + m → mJ mX0 (d + 2) kX0_passNights (fun r w' => r = some (.int (nI (nOut (fld w0 7 0) (arr w0 10) nw N (arr w0 12, arr w0 15, arr w0 16)))) ∧ NsAt (fld w0 7 0) nw 7 10 12 15 16 w0 N w' ∧ fld w' 7 0 = fld w0 7 0 ∧ fld w' 7 1 = fld w0 7 1 ∧ fld w' 7 2 = fld w0 7 2 + nI N) 4 [.ref 7, .int (nI N), .int (nI (nOut (fld w0 7 0) (arr w0 10) nw t (arr w0 12, arr w0 15, arr w0 16))), .int (nI t), v4] [] w := by
    intro m
    induction m with
    | zero => intro t v4 w _ _ _ h1 h2; omega
    | succ m ih =>
      intro t v4 w hv hA hf ht1 ht2
      have hS := hA.1
      have tk : (nI t).toInt = (t : Int) := nI_toInt (by omega)
      have tN : (nI N).toInt = (N : Int) := nI_toInt (by omega)
      have kont : t < N → ∀ w1, nAt (fld w 7 0) 10 12 15 16 w nw w1 → mJ mX0 (d + 2) kX0_passNights (fun r w' => r = some (.int (nI (nOut (fld w0 7 0) (arr w0 10) nw N (arr w0 12, arr w0 15, arr w0 16)))) ∧ NsAt (fld w0 7 0) nw 7 10 12 15 16 w0 N w' ∧ fld w' 7 0 = fld w0 7 0 ∧ fld w' 7 1 = fld w0 7 1 ∧ fld w' 7 2 = fld w0 7 2 + nI N) 39 [.ref 7, .int (nI N), .int (nI (nOut (fld w0 7 0) (arr w0 10) nw t (arr w0 12, arr w0 15, arr w0 16) + cntN (outP (fld w 7 0) (arr w 10) (arr w 12) (arr w 15)) nw)), .int (nI t), .int (nI nw)] [] w1 := by
        intro htN w1 hN
        rw [hf.1, hA.out (by decide)]
        rw [hf.1] at hN
        have hS := hN.1
        have hS1 := hN.1
        refine x_aload_n (pc := 39) (i := 0) dX0_passNights_39 rfl rfl ?_
        refine x_dup (pc := 40) dX0_passNights_40 rfl ?_
        refine x_getI (pc := 41) hS fX0_46 dX0_passNights_41 rfl rfl ?_
        refine x_iconst (pc := 44) (v := 1) dX0_passNights_44 (by decide) ?_
        refine x_iadd (pc := 45) dX0_passNights_45 ?_
        refine x_putI (pc := 46) hS fX0_46 dX0_passNights_46 rfl rfl rfl rfl (fun hS => ?_)
        refine x_iinc (pc := 49) (L' := [_, _, _, _, _]) dX0_passNights_49 (by decide) rfl (by first | exact nI_inc _ | rfl) rfl ?_
        refine x_goto (pc := 52) (tgt := 4) dX0_passNights_52 (by decide) ?_
        refine ih (t + 1) _ _ (Or.inr ⟨_, rfl⟩) (hA.step (by decide) hN hS ((Fr.rf).stF (by decide) _ _) (by decide)) ⟨?_, ?_, ?_⟩ (by omega) (by omega)
        · rw [fld_setF_k (by decide), hN.2.1.fl (by decide), hf.1]
        · rw [fld_setF_k (by decide), hN.2.1.fl (by decide), hf.2.1]
        · rw [fld_setF hS1 rfl rfl, hN.2.1.fl (by decide), hf.2.2, Int32.add_assoc, nI_1]
      rcases hv with rfl | ⟨x4, rfl⟩
      · skip
        refine x_iload_n (pc := 4) (i := 3) dX0_passNights_4 rfl rfl ?_
        refine x_iload_n (pc := 5) (i := 1) dX0_passNights_5 rfl rfl ?_
        refine x_icmp_ge (pc := 6) (tgt := 55) dX0_passNights_6 (by decide) (fun h6 => ?_) (fun h6 => ?_)
        · refine x_iload_n (pc := 55) (i := 2) dX0_passNights_55 rfl rfl ?_
          refine x_ri (pc := 56) dX0_passNights_56 rfl rfl ?_
          have e := show t = N by (try simp only [b2_e0, b2_n0, Decidable.not_not] at *) <;> (try simp only [i_lt, i_le, i_eq, not_and, not_or, ne_eq, il_0, il_1, il_2, il_3, il_4, il_5, il_6, il_7, il_8, il_9, il_10, il_14, il_15, il_19, il_20, il_24, il_30, il_31, il_44, il_48, il_49, il_52, il_57, il_59, il_60, il_70, il_99, il_100, il_103, il_108, il_114, il_m1, il_m2, il_m3, il_m4, il_m9, il_m10, il_m100] at *) <;> omega
          subst e
          exact ⟨rfl, hA, hf⟩
        · refine x_iconst (pc := 9) (v := 0) dX0_passNights_9 (by decide) ?_
          refine x_istore (pc := 10) (L' := [_, _, _, _, _]) dX0_passNights_10 (by decide) rfl ?_
          exact pn_in_7 (w0 := w) (by rw [hf.1]; exact tb) hnb (by rw [hf.2.1]; exact tw) hnw _ (kont (by (try simp only [b2_e0, b2_n0, Decidable.not_not] at *) <;> (try simp only [i_lt, i_le, i_eq, not_and, not_or, ne_eq, il_0, il_1, il_2, il_3, il_4, il_5, il_6, il_7, il_8, il_9, il_10, il_14, il_15, il_19, il_20, il_24, il_30, il_31, il_44, il_48, il_49, il_52, il_57, il_59, il_60, il_70, il_99, il_100, il_103, il_108, il_114, il_m1, il_m2, il_m3, il_m4, il_m9, il_m10, il_m100] at *) <;> omega)) (nw + 1) 0 w (nAt.zero hS) (by omega) (by omega)
      · skip
        refine x_iload_n (pc := 4) (i := 3) dX0_passNights_4 rfl rfl ?_
        refine x_iload_n (pc := 5) (i := 1) dX0_passNights_5 rfl rfl ?_
        refine x_icmp_ge (pc := 6) (tgt := 55) dX0_passNights_6 (by decide) (fun h6 => ?_) (fun h6 => ?_)
        · refine x_iload_n (pc := 55) (i := 2) dX0_passNights_55 rfl rfl ?_
          refine x_ri (pc := 56) dX0_passNights_56 rfl rfl ?_
          have e := show t = N by (try simp only [b2_e0, b2_n0, Decidable.not_not] at *) <;> (try simp only [i_lt, i_le, i_eq, not_and, not_or, ne_eq, il_0, il_1, il_2, il_3, il_4, il_5, il_6, il_7, il_8, il_9, il_10, il_14, il_15, il_19, il_20, il_24, il_30, il_31, il_44, il_48, il_49, il_52, il_57, il_59, il_60, il_70, il_99, il_100, il_103, il_108, il_114, il_m1, il_m2, il_m3, il_m4, il_m9, il_m10, il_m100] at *) <;> omega
          subst e
          exact ⟨rfl, hA, hf⟩
        · refine x_iconst (pc := 9) (v := 0) dX0_passNights_9 (by decide) ?_
          refine x_istore (pc := 10) (L' := [_, _, _, _, _]) dX0_passNights_10 (by decide) rfl ?_
          exact pn_in_7 (w0 := w) (by rw [hf.1]; exact tb) hnb (by rw [hf.2.1]; exact tw) hnw _ (kont (by (try simp only [b2_e0, b2_n0, Decidable.not_not] at *) <;> (try simp only [i_lt, i_le, i_eq, not_and, not_or, ne_eq, il_0, il_1, il_2, il_3, il_4, il_5, il_6, il_7, il_8, il_9, il_10, il_14, il_15, il_19, il_20, il_24, il_30, il_31, il_44, il_48, il_49, il_52, il_57, il_59, il_60, il_70, il_99, il_100, il_103, il_108, il_114, il_m1, il_m2, il_m3, il_m4, il_m9, il_m10, il_m100] at *) <;> omega)) (nw + 1) 0 w (nAt.zero hS) (by omega) (by omega)
  refine mC.of (L := [_, _, _, _, _]) okX0_passNights 3 rfl rfl ?_
  refine x_iconst (pc := 0) (v := 0) dX0_passNights_0 (by decide) ?_
  refine x_istore_n (pc := 1) (i := 2) (L' := [_, _, _, _, _]) dX0_passNights_1 rfl (by decide) rfl ?_
  refine x_iconst (pc := 2) (v := 0) dX0_passNights_2 (by decide) ?_
  refine x_istore_n (pc := 3) (i := 3) (L' := [_, _, _, _, _]) dX0_passNights_3 rfl (by decide) rfl ?_
  exact lp (N + 1) 0 .null w0 (Or.inl rfl) (NsAt.zero hS) ⟨rfl, rfl, (Int32.add_zero _).symm⟩ (by omega) (by omega)
theorem c_X0_passNights_18 {d : Nat} {w0 : mW} {nb nw N : Nat} (hS : Shape w0) (tb : (fld w0 18 0).toInt = (nb : Int)) (hnb : nb ≤ 5) (tw : (fld w0 18 1).toInt = (nw : Int)) (hnw : nw ≤ 5) (hNn : N ≤ 30) : mC (d + 2) kX0_passNights [.ref 18, .int (nI N)] w0 (fun r w' => r = some (.int (nI (nOut (fld w0 18 0) (arr w0 21) nw N (arr w0 23, arr w0 26, arr w0 27)))) ∧ NsAt (fld w0 18 0) nw 18 21 23 26 27 w0 N w' ∧ fld w' 18 0 = fld w0 18 0 ∧ fld w' 18 1 = fld w0 18 1 ∧ fld w' 18 2 = fld w0 18 2 + nI N) := by
  have lp : ∀ (m t : Nat) (v4 : Value) (w : mW), v4 = .null ∨ (∃ x, v4 = .int x) → NsAt (fld w0 18 0) nw 18 21 23 26 27 w0 t w → fld w 18 0 = fld w0 18 0 ∧ fld w 18 1 = fld w0 18 1 ∧ fld w 18 2 = fld w0 18 2 + nI t → t ≤ N → N < t + m → mJ mX0 (d + 2) kX0_passNights (fun r w' => r = some (.int (nI (nOut (fld w0 18 0) (arr w0 21) nw N (arr w0 23, arr w0 26, arr w0 27)))) ∧ NsAt (fld w0 18 0) nw 18 21 23 26 27 w0 N w' ∧ fld w' 18 0 = fld w0 18 0 ∧ fld w' 18 1 = fld w0 18 1 ∧ fld w' 18 2 = fld w0 18 2 + nI N) 4 [.ref 18, .int (nI N), .int (nI (nOut (fld w0 18 0) (arr w0 21) nw t (arr w0 23, arr w0 26, arr w0 27))), .int (nI t), v4] [] w := by
    intro m
    induction m with
    | zero => intro t v4 w _ _ _ h1 h2; omega
    | succ m ih =>
      intro t v4 w hv hA hf ht1 ht2
      have hS := hA.1
      have tk : (nI t).toInt = (t : Int) := nI_toInt (by omega)
      have tN : (nI N).toInt = (N : Int) := nI_toInt (by omega)
      have kont : t < N → ∀ w1, nAt (fld w 18 0) 21 23 26 27 w nw w1 → mJ mX0 (d + 2) kX0_passNights (fun r w' => r = some (.int (nI (nOut (fld w0 18 0) (arr w0 21) nw N (arr w0 23, arr w0 26, arr w0 27)))) ∧ NsAt (fld w0 18 0) nw 18 21 23 26 27 w0 N w' ∧ fld w' 18 0 = fld w0 18 0 ∧ fld w' 18 1 = fld w0 18 1 ∧ fld w' 18 2 = fld w0 18 2 + nI N) 39 [.ref 18, .int (nI N), .int (nI (nOut (fld w0 18 0) (arr w0 21) nw t (arr w0 23, arr w0 26, arr w0 27) + cntN (outP (fld w 18 0) (arr w 21) (arr w 23) (arr w 26)) nw)), .int (nI t), .int (nI nw)] [] w1 := by
        intro htN w1 hN
        rw [hf.1, hA.out (by decide)]
        rw [hf.1] at hN
        have hS := hN.1
        have hS1 := hN.1
        refine x_aload_n (pc := 39) (i := 0) dX0_passNights_39 rfl rfl ?_
        refine x_dup (pc := 40) dX0_passNights_40 rfl ?_
        refine x_getI (pc := 41) hS fX0_46 dX0_passNights_41 rfl rfl ?_
        refine x_iconst (pc := 44) (v := 1) dX0_passNights_44 (by decide) ?_
        refine x_iadd (pc := 45) dX0_passNights_45 ?_
        refine x_putI (pc := 46) hS fX0_46 dX0_passNights_46 rfl rfl rfl rfl (fun hS => ?_)
        refine x_iinc (pc := 49) (L' := [_, _, _, _, _]) dX0_passNights_49 (by decide) rfl (by first | exact nI_inc _ | rfl) rfl ?_
        refine x_goto (pc := 52) (tgt := 4) dX0_passNights_52 (by decide) ?_
        refine ih (t + 1) _ _ (Or.inr ⟨_, rfl⟩) (hA.step (by decide) hN hS ((Fr.rf).stF (by decide) _ _) (by decide)) ⟨?_, ?_, ?_⟩ (by omega) (by omega)
        · rw [fld_setF_k (by decide), hN.2.1.fl (by decide), hf.1]
        · rw [fld_setF_k (by decide), hN.2.1.fl (by decide), hf.2.1]
        · rw [fld_setF hS1 rfl rfl, hN.2.1.fl (by decide), hf.2.2, Int32.add_assoc, nI_1]
      rcases hv with rfl | ⟨x4, rfl⟩
      · skip
        refine x_iload_n (pc := 4) (i := 3) dX0_passNights_4 rfl rfl ?_
        refine x_iload_n (pc := 5) (i := 1) dX0_passNights_5 rfl rfl ?_
        refine x_icmp_ge (pc := 6) (tgt := 55) dX0_passNights_6 (by decide) (fun h6 => ?_) (fun h6 => ?_)
        · refine x_iload_n (pc := 55) (i := 2) dX0_passNights_55 rfl rfl ?_
          refine x_ri (pc := 56) dX0_passNights_56 rfl rfl ?_
          have e := show t = N by (try simp only [b2_e0, b2_n0, Decidable.not_not] at *) <;> (try simp only [i_lt, i_le, i_eq, not_and, not_or, ne_eq, il_0, il_1, il_2, il_3, il_4, il_5, il_6, il_7, il_8, il_9, il_10, il_14, il_15, il_19, il_20, il_24, il_30, il_31, il_44, il_48, il_49, il_52, il_57, il_59, il_60, il_70, il_99, il_100, il_103, il_108, il_114, il_m1, il_m2, il_m3, il_m4, il_m9, il_m10, il_m100] at *) <;> omega
          subst e
          exact ⟨rfl, hA, hf⟩
        · refine x_iconst (pc := 9) (v := 0) dX0_passNights_9 (by decide) ?_
          refine x_istore (pc := 10) (L' := [_, _, _, _, _]) dX0_passNights_10 (by decide) rfl ?_
          exact pn_in_18 (w0 := w) (by rw [hf.1]; exact tb) hnb (by rw [hf.2.1]; exact tw) hnw _ (kont (by (try simp only [b2_e0, b2_n0, Decidable.not_not] at *) <;> (try simp only [i_lt, i_le, i_eq, not_and, not_or, ne_eq, il_0, il_1, il_2, il_3, il_4, il_5, il_6, il_7, il_8, il_9, il_10, il_14, il_15, il_19, il_20, il_24, il_30, il_31, il_44, il_48, il_49, il_52, il_57, il_59, il_60, il_70, il_99, il_100, il_103, il_108, il_114, il_m1, il_m2, il_m3, il_m4, il_m9, il_m10, il_m100] at *) <;> omega)) (nw + 1) 0 w (nAt.zero hS) (by omega) (by omega)
      · skip
        refine x_iload_n (pc := 4) (i := 3) dX0_passNights_4 rfl rfl ?_
        refine x_iload_n (pc := 5) (i := 1) dX0_passNights_5 rfl rfl ?_
        refine x_icmp_ge (pc := 6) (tgt := 55) dX0_passNights_6 (by decide) (fun h6 => ?_) (fun h6 => ?_)
        · refine x_iload_n (pc := 55) (i := 2) dX0_passNights_55 rfl rfl ?_
          refine x_ri (pc := 56) dX0_passNights_56 rfl rfl ?_
          have e := show t = N by (try simp only [b2_e0, b2_n0, Decidable.not_not] at *) <;> (try simp only [i_lt, i_le, i_eq, not_and, not_or, ne_eq, il_0, il_1, il_2, il_3, il_4, il_5, il_6, il_7, il_8, il_9, il_10, il_14, il_15, il_19, il_20, il_24, il_30, il_31, il_44, il_48, il_49, il_52, il_57, il_59, il_60, il_70, il_99, il_100, il_103, il_108, il_114, il_m1, il_m2, il_m3, il_m4, il_m9, il_m10, il_m100] at *) <;> omega
          subst e
          exact ⟨rfl, hA, hf⟩
        · refine x_iconst (pc := 9) (v := 0) dX0_passNights_9 (by decide) ?_
          refine x_istore (pc := 10) (L' := [_, _, _, _, _]) dX0_passNights_10 (by decide) rfl ?_
          exact pn_in_18 (w0 := w) (by rw [hf.1]; exact tb) hnb (by rw [hf.2.1]; exact tw) hnw _ (kont (by (try simp only [b2_e0, b2_n0, Decidable.not_not] at *) <;> (try simp only [i_lt, i_le, i_eq, not_and, not_or, ne_eq, il_0, il_1, il_2, il_3, il_4, il_5, il_6, il_7, il_8, il_9, il_10, il_14, il_15, il_19, il_20, il_24, il_30, il_31, il_44, il_48, il_49, il_52, il_57, il_59, il_60, il_70, il_99, il_100, il_103, il_108, il_114, il_m1, il_m2, il_m3, il_m4, il_m9, il_m10, il_m100] at *) <;> omega)) (nw + 1) 0 w (nAt.zero hS) (by omega) (by omega)
  refine mC.of (L := [_, _, _, _, _]) okX0_passNights 3 rfl rfl ?_
  refine x_iconst (pc := 0) (v := 0) dX0_passNights_0 (by decide) ?_
  refine x_istore_n (pc := 1) (i := 2) (L' := [_, _, _, _, _]) dX0_passNights_1 rfl (by decide) rfl ?_
  refine x_iconst (pc := 2) (v := 0) dX0_passNights_2 (by decide) ?_
  refine x_istore_n (pc := 3) (i := 3) (L' := [_, _, _, _, _]) dX0_passNights_3 rfl (by decide) rfl ?_
  exact lp (N + 1) 0 .null w0 (Or.inl rfl) (NsAt.zero hS) ⟨rfl, rfl, (Int32.add_zero _).symm⟩ (by omega) (by omega)

