theorem nMe_k {NB : Int32} {pe me lo : Nat → Int32} {k : Nat} : nMe NB pe me lo k k = me k := by simp [nMe]
theorem nLo_k {NB : Int32} {pe me lo : Nat → Int32} {k : Nat} : nLo NB pe me lo k k = lo k := by simp [nLo]
theorem nCo_k {NB : Int32} {pe me lo co : Nat → Int32} {k : Nat} : nCo NB pe me lo co k k = co k := by simp [nCo]
theorem nMe_0 {NB : Int32} {pe me lo : Nat → Int32} : nMe NB pe me lo 0 = me := by funext j; simp [nMe]
theorem nLo_0 {NB : Int32} {pe me lo : Nat → Int32} : nLo NB pe me lo 0 = lo := by funext j; simp [nLo]
theorem nCo_0 {NB : Int32} {pe me lo co : Nat → Int32} : nCo NB pe me lo co 0 = co := by funext j; simp [nCo]
theorem nMe_t {NB : Int32} {pe me lo : Nat → Int32} {k : Nat} (h : paysP NB pe me lo k) : upd (nMe NB pe me lo k) k (me k - pe (lo k).toNatClampNeg) = nMe NB pe me lo (k + 1) := by
  funext j
  by_cases hj : j = k
  · subst hj; simp only [upd, nMe, if_true]; rw [if_pos ⟨by omega, h⟩]
  · simp only [upd, nMe, if_neg hj]
    have : (j < k + 1) = (j < k) := propext (by omega)
    simp only [this]
theorem nMe_f {NB : Int32} {pe me lo : Nat → Int32} {k : Nat} (h : ¬ paysP NB pe me lo k) : nMe NB pe me lo (k + 1) = nMe NB pe me lo k := by
  funext j
  by_cases hj : j = k
  · subst hj; simp only [nMe]; rw [if_neg (fun q => h q.2), if_neg (fun q => h q.2)]
  · simp only [nMe]
    have : (j < k + 1) = (j < k) := propext (by omega)
    simp only [this]
theorem nLo_t {NB : Int32} {pe me lo : Nat → Int32} {k : Nat} (h : paysP NB pe me lo k) : nLo NB pe me lo (k + 1) = nLo NB pe me lo k := by
  funext j
  by_cases hj : j = k
  · subst hj; simp only [nLo]; rw [if_neg (fun q => q.2 h), if_neg (fun q => q.2 h)]
  · simp only [nLo]
    have : (j < k + 1) = (j < k) := propext (by omega)
    simp only [this]
theorem nLo_f {NB : Int32} {pe me lo : Nat → Int32} {k : Nat} (h : ¬ paysP NB pe me lo k) : upd (nLo NB pe me lo k) k (-9) = nLo NB pe me lo (k + 1) := by
  funext j
  by_cases hj : j = k
  · subst hj; simp only [upd, nLo, if_true]; rw [if_pos ⟨by omega, h⟩]
  · simp only [upd, nLo, if_neg hj]
    have : (j < k + 1) = (j < k) := propext (by omega)
    simp only [this]
theorem nCo_t {NB : Int32} {pe me lo co : Nat → Int32} {k : Nat} (h : paysP NB pe me lo k) : nCo NB pe me lo co (k + 1) = nCo NB pe me lo co k := by
  funext j
  by_cases hj : j = k
  · subst hj; simp only [nCo]; rw [if_neg (fun q => q.2 h), if_neg (fun q => q.2 h)]
  · simp only [nCo]
    have : (j < k + 1) = (j < k) := propext (by omega)
    simp only [this]
theorem nCo_f {NB : Int32} {pe me lo co : Nat → Int32} {k : Nat} (h : ¬ paysP NB pe me lo k) : upd (nCo NB pe me lo co k) k (co k + 1) = nCo NB pe me lo co (k + 1) := by
  funext j
  by_cases hj : j = k
  · subst hj; simp only [upd, nCo, if_true]; rw [if_pos ⟨by omega, h⟩]
  · simp only [upd, nCo, if_neg hj]
    have : (j < k + 1) = (j < k) := propext (by omega)
    simp only [this]
/-- the arrays of a down (kind .. cold from a0 on, the 3rd PENCE, 5th MEANS, 8th lodging, 9th COLD) behind k walkers of a night that began at w0 -/
def nAt (NB : Int32) (aP aM aL aC : Nat) (w0 : mW) (k : Nat) (w : mW) : Prop := Shape w ∧ Fr [aM, aL, aC] w0 w ∧ arr w aM = nMe NB (arr w0 aP) (arr w0 aM) (arr w0 aL) k ∧ arr w aL = nLo NB (arr w0 aP) (arr w0 aM) (arr w0 aL) k ∧ arr w aC = nCo NB (arr w0 aP) (arr w0 aM) (arr w0 aL) (arr w0 aC) k
theorem nAt.zero {NB : Int32} {aP aM aL aC : Nat} {w0 : mW} (hS : Shape w0) : nAt NB aP aM aL aC w0 0 w0 := ⟨hS, Fr.rf, nMe_0.symm, nLo_0.symm, nCo_0.symm⟩
theorem nAt.pays {NB : Int32} {aP aM aL aC : Nat} {w0 w : mW} {k : Nat} (h : nAt NB aP aM aL aC w0 k w) (hP : aP ∉ [aM, aL, aC]) : paysP NB (arr w aP) (arr w aM) (arr w aL) k ↔ paysP NB (arr w0 aP) (arr w0 aM) (arr w0 aL) k := by
  obtain ⟨_, hF, hM, hL, _⟩ := h
  rw [hF.ar hP, hM, hL]
  simp only [paysP, nLo_k, nMe_k]
theorem nAt.step {NB : Int32} {aP aM aL aC nM nL nC : Nat} {w0 w w1 : mW} {k : Nat} (h : nAt NB aP aM aL aC w0 k w) (hP : aP ∉ [aM, aL, aC]) (hd : aM ≠ aL ∧ aM ≠ aC ∧ aL ≠ aC) (hsM : mShp[aM]? = some (.inl nM)) (hsL : mShp[aL]? = some (.inl nL)) (hsC : mShp[aC]? = some (.inl nC))
    (hw : w1 = if paysP NB (arr w aP) (arr w aM) (arr w aL) k then setA w aM (upd (arr w aM) k (arr w aM k - arr w aP (arr w aL k).toNatClampNeg)) else setA (setA w aL (upd (arr w aL) k (-9))) aC (upd (arr w aC) k (arr w aC k + 1))) : nAt NB aP aM aL aC w0 (k + 1) w1 := by
  have hp := h.pays hP
  obtain ⟨hS, hF, hM, hL, hC⟩ := h
  by_cases hq : paysP NB (arr w0 aP) (arr w0 aM) (arr w0 aL) k
  · rw [if_pos (hp.mpr hq)] at hw
    subst hw
    refine ⟨hS.stA _ _, hF.stA (by simp) _, ?_, ?_, ?_⟩
    · rw [arr_setA hS hsM, hF.ar hP, hM, hL, nMe_k, nLo_k, nMe_t hq]
    · rw [arr_setA_a (Ne.symm hd.1), hL, nLo_t hq]
    · rw [arr_setA_a (Ne.symm hd.2.1), hC, nCo_t hq]
  · rw [if_neg (fun z => hq (hp.mp z))] at hw
    subst hw
    refine ⟨(hS.stA _ _).stA _ _, (hF.stA (by simp) _).stA (by simp) _, ?_, ?_, ?_⟩
    · rw [arr_setA_a hd.2.1, arr_setA_a hd.1, hM, nMe_f hq]
    · rw [arr_setA_a hd.2.2, arr_setA hS hsL, hL, nLo_f hq]
    · rw [arr_setA (hS.stA _ _) hsC, hC, nCo_k, nCo_f hq]
theorem cnt_t {p : Nat → Bool} {k : Nat} (h : p k = true) : cntN p (k + 1) = cntN p k + 1 := by simp [cntN, h]
theorem cnt_f {p : Nat → Bool} {k : Nat} (h : p k = false) : cntN p (k + 1) = cntN p k := by simp [cntN, h]
theorem b2_c {p q : Prop} [Decidable p] [Decidable q] (h : p ↔ q) : b2 p = b2 q := by
  unfold b2
  by_cases hp : p
  · rw [if_pos hp, if_pos (h.mp hp)]
  · rw [if_neg hp, if_neg (fun z => hp (h.mpr z))]
theorem out_iff {A B : Prop} : ((A ∧ B) ∨ ¬ A) ↔ ¬ (A ∧ ¬ B) := by
  by_cases hA : A <;> by_cases hB : B <;> simp [hA, hB]
theorem nAt.out {NB : Int32} {aP aM aL aC : Nat} {w0 w : mW} {k : Nat} (h : nAt NB aP aM aL aC w0 k w) (hP : aP ∉ [aM, aL, aC]) : (paysP NB (arr w aP) (arr w aM) (arr w aL) k ∨ ¬ inB NB (arr w aL) k) ↔ ¬ (outP NB (arr w0 aP) (arr w0 aM) (arr w0 aL) k = true) := by
  rw [h.pays hP]
  obtain ⟨_, hF, hM, hL, _⟩ := h
  simp only [inB, hL, nLo_k, outP, decide_eq_true_eq]
  exact out_iff
theorem pn_in_7 {d : Nat} {Q : Option Value → mW → Prop} {w0 : mW} {n t : Int32} {nb nw : Nat} (tb : (fld w0 7 0).toInt = (nb : Int)) (hnb : nb ≤ 5) (tw : (fld w0 7 1).toInt = (nw : Int)) (hnw : nw ≤ 5) (o : Nat)
    (kont : ∀ w, nAt (fld w0 7 0) 10 12 15 16 w0 nw w → mJ mX0 (d + 2) kX0_passNights Q 39 [.ref 7, .int n, .int (nI (o + cntN (outP (fld w0 7 0) (arr w0 10) (arr w0 12) (arr w0 15)) nw)), .int t, .int (nI nw)] [] w) :
    ∀ (m k : Nat) (w : mW), nAt (fld w0 7 0) 10 12 15 16 w0 k w → k ≤ nw → nw < k + m → mJ mX0 (d + 2) kX0_passNights Q 12 [.ref 7, .int n, .int (nI (o + cntN (outP (fld w0 7 0) (arr w0 10) (arr w0 12) (arr w0 15)) k)), .int t, .int (nI k)] [] w := by
  intro m
  induction m with
  | zero => intro k w _ h1 h2; omega
  | succ m ih =>
    intro k w hN hk1 hk2
    have hS := hN.1
    have tk : (nI k).toInt = (k : Int) := nI_toInt (by omega)
    have eb : fld w 7 0 = fld w0 7 0 := hN.2.1.fl (by decide) 0
    have ew : fld w 7 1 = fld w0 7 1 := hN.2.1.fl (by decide) 1
    have tb1 : (fld w 7 0).toInt = (nb : Int) := by rw [eb]; exact tb
    have tw1 : (fld w 7 1).toInt = (nw : Int) := by rw [ew]; exact tw
    refine x_iload (pc := 12) dX0_passNights_12 rfl ?_
    refine x_aload_n (pc := 14) (i := 0) dX0_passNights_14 rfl rfl ?_
    refine x_getI (pc := 15) hS fX0_43 dX0_passNights_15 rfl rfl ?_
    have hS := hN.1
    refine x_icmp_ge (pc := 18) (tgt := 39) dX0_passNights_18 (by decide) (fun h18 => ?_) (fun h18 => ?_)
    · have e := show k = nw by (try simp only [b2_e0, b2_n0, Decidable.not_not] at *) <;> (try simp only [i_lt, i_le, i_eq, not_and, not_or, ne_eq, il_0, il_1, il_2, il_3, il_4, il_5, il_6, il_7, il_8, il_9, il_10, il_14, il_15, il_19, il_20, il_24, il_30, il_31, il_44, il_48, il_49, il_52, il_57, il_59, il_60, il_70, il_99, il_100, il_103, il_108, il_114, il_m1, il_m2, il_m3, il_m4, il_m9, il_m10, il_m100] at *) <;> omega
      subst e
      exact kont w hN
    · have hkn : k < nw := by (try simp only [b2_e0, b2_n0, Decidable.not_not] at *) <;> (try simp only [i_lt, i_le, i_eq, not_and, not_or, ne_eq, il_0, il_1, il_2, il_3, il_4, il_5, il_6, il_7, il_8, il_9, il_10, il_14, il_15, il_19, il_20, il_24, il_30, il_31, il_44, il_48, il_49, il_52, il_57, il_59, il_60, il_70, il_99, il_100, il_103, il_108, il_114, il_m1, il_m2, il_m3, il_m4, il_m9, il_m10, il_m100] at *) <;> omega
      refine x_aload_n (pc := 21) (i := 0) dX0_passNights_21 rfl rfl ?_
      refine x_iload (pc := 22) dX0_passNights_22 rfl ?_
      refine x_vs (pc := 24) (As := [_]) rfl hS lX0_80 dX0_passNights_24 rfl rfl (Nat.le_of_ble_eq_true rfl) (c_X0_paysOrGoes_7 hN.1 tb1 hnb tw1 hnw hkn) ?_
      rintro _ w1 ⟨rfl, hq⟩
      rw [eb] at hq
      rw [eb, b2_c (hN.out (by decide))]
      have hN := hN.step (by decide) (by decide) rfl rfl rfl hq
      have hS := hN.1
      refine x_pushI ?_
      refine x_if_ne (pc := 27) (tgt := 33) dX0_passNights_27 (by decide) (fun h27 => ?_) (fun h27 => ?_)
      · refine x_iinc (pc := 33) (L' := [_, _, _, _, _]) dX0_passNights_33 (by decide) rfl (by first | exact nI_inc _ | rfl) rfl ?_
        refine x_goto (pc := 36) (tgt := 12) dX0_passNights_36 (by decide) ?_
        have h9 := ih (k + 1) w1 hN (by omega) (by omega)
        by_cases hoP : outP (fld w0 7 0) (arr w0 10) (arr w0 12) (arr w0 15) k = true
        · rw [cnt_t hoP] at h9; first | exact h9 | exact absurd hoP (b2_n0.mp h27)
        · rw [cnt_f (by simpa using hoP)] at h9; first | exact h9 | exact absurd hoP (b2_e0.mp h27)
      · refine x_iinc (pc := 30) (L' := [_, _, _, _, _]) dX0_passNights_30 (by decide) rfl (by first | exact nI_inc _ | rfl) rfl ?_
        refine x_iinc (pc := 33) (L' := [_, _, _, _, _]) dX0_passNights_33 (by decide) rfl (by first | exact nI_inc _ | rfl) rfl ?_
        refine x_goto (pc := 36) (tgt := 12) dX0_passNights_36 (by decide) ?_
        have h9 := ih (k + 1) w1 hN (by omega) (by omega)
        by_cases hoP : outP (fld w0 7 0) (arr w0 10) (arr w0 12) (arr w0 15) k = true
        · rw [cnt_t hoP] at h9; first | exact h9 | exact absurd hoP (b2_n0.mp h27)
        · rw [cnt_f (by simpa using hoP)] at h9; first | exact h9 | exact absurd hoP (b2_e0.mp h27)
theorem pn_in_18 {d : Nat} {Q : Option Value → mW → Prop} {w0 : mW} {n t : Int32} {nb nw : Nat} (tb : (fld w0 18 0).toInt = (nb : Int)) (hnb : nb ≤ 5) (tw : (fld w0 18 1).toInt = (nw : Int)) (hnw : nw ≤ 5) (o : Nat)
    (kont : ∀ w, nAt (fld w0 18 0) 21 23 26 27 w0 nw w → mJ mX0 (d + 2) kX0_passNights Q 39 [.ref 18, .int n, .int (nI (o + cntN (outP (fld w0 18 0) (arr w0 21) (arr w0 23) (arr w0 26)) nw)), .int t, .int (nI nw)] [] w) :
    ∀ (m k : Nat) (w : mW), nAt (fld w0 18 0) 21 23 26 27 w0 k w → k ≤ nw → nw < k + m → mJ mX0 (d + 2) kX0_passNights Q 12 [.ref 18, .int n, .int (nI (o + cntN (outP (fld w0 18 0) (arr w0 21) (arr w0 23) (arr w0 26)) k)), .int t, .int (nI k)] [] w := by
  intro m
  induction m with
  | zero => intro k w _ h1 h2; omega
  | succ m ih =>
    intro k w hN hk1 hk2
    have hS := hN.1
    have tk : (nI k).toInt = (k : Int) := nI_toInt (by omega)
    have eb : fld w 18 0 = fld w0 18 0 := hN.2.1.fl (by decide) 0
    have ew : fld w 18 1 = fld w0 18 1 := hN.2.1.fl (by decide) 1
    have tb1 : (fld w 18 0).toInt = (nb : Int) := by rw [eb]; exact tb
    have tw1 : (fld w 18 1).toInt = (nw : Int) := by rw [ew]; exact tw
    refine x_iload (pc := 12) dX0_passNights_12 rfl ?_
    refine x_aload_n (pc := 14) (i := 0) dX0_passNights_14 rfl rfl ?_
    refine x_getI (pc := 15) hS fX0_43 dX0_passNights_15 rfl rfl ?_
    have hS := hN.1
    refine x_icmp_ge (pc := 18) (tgt := 39) dX0_passNights_18 (by decide) (fun h18 => ?_) (fun h18 => ?_)
    · have e := show k = nw by (try simp only [b2_e0, b2_n0, Decidable.not_not] at *) <;> (try simp only [i_lt, i_le, i_eq, not_and, not_or, ne_eq, il_0, il_1, il_2, il_3, il_4, il_5, il_6, il_7, il_8, il_9, il_10, il_14, il_15, il_19, il_20, il_24, il_30, il_31, il_44, il_48, il_49, il_52, il_57, il_59, il_60, il_70, il_99, il_100, il_103, il_108, il_114, il_m1, il_m2, il_m3, il_m4, il_m9, il_m10, il_m100] at *) <;> omega
      subst e
      exact kont w hN
    · have hkn : k < nw := by (try simp only [b2_e0, b2_n0, Decidable.not_not] at *) <;> (try simp only [i_lt, i_le, i_eq, not_and, not_or, ne_eq, il_0, il_1, il_2, il_3, il_4, il_5, il_6, il_7, il_8, il_9, il_10, il_14, il_15, il_19, il_20, il_24, il_30, il_31, il_44, il_48, il_49, il_52, il_57, il_59, il_60, il_70, il_99, il_100, il_103, il_108, il_114, il_m1, il_m2, il_m3, il_m4, il_m9, il_m10, il_m100] at *) <;> omega
      refine x_aload_n (pc := 21) (i := 0) dX0_passNights_21 rfl rfl ?_
      refine x_iload (pc := 22) dX0_passNights_22 rfl ?_
      refine x_vs (pc := 24) (As := [_]) rfl hS lX0_80 dX0_passNights_24 rfl rfl (Nat.le_of_ble_eq_true rfl) (c_X0_paysOrGoes_18 hN.1 tb1 hnb tw1 hnw hkn) ?_
      rintro _ w1 ⟨rfl, hq⟩
      rw [eb] at hq
      rw [eb, b2_c (hN.out (by decide))]
      have hN := hN.step (by decide) (by decide) rfl rfl rfl hq
      have hS := hN.1
      refine x_pushI ?_
      refine x_if_ne (pc := 27) (tgt := 33) dX0_passNights_27 (by decide) (fun h27 => ?_) (fun h27 => ?_)
      · refine x_iinc (pc := 33) (L' := [_, _, _, _, _]) dX0_passNights_33 (by decide) rfl (by first | exact nI_inc _ | rfl) rfl ?_
        refine x_goto (pc := 36) (tgt := 12) dX0_passNights_36 (by decide) ?_
        have h9 := ih (k + 1) w1 hN (by omega) (by omega)
        by_cases hoP : outP (fld w0 18 0) (arr w0 21) (arr w0 23) (arr w0 26) k = true
        · rw [cnt_t hoP] at h9; first | exact h9 | exact absurd hoP (b2_n0.mp h27)
        · rw [cnt_f (by simpa using hoP)] at h9; first | exact h9 | exact absurd hoP (b2_e0.mp h27)
      · refine x_iinc (pc := 30) (L' := [_, _, _, _, _]) dX0_passNights_30 (by decide) rfl (by first | exact nI_inc _ | rfl) rfl ?_
        refine x_iinc (pc := 33) (L' := [_, _, _, _, _]) dX0_passNights_33 (by decide) rfl (by first | exact nI_inc _ | rfl) rfl ?_
        refine x_goto (pc := 36) (tgt := 12) dX0_passNights_36 (by decide) ?_
        have h9 := ih (k + 1) w1 hN (by omega) (by omega)
        by_cases hoP : outP (fld w0 18 0) (arr w0 21) (arr w0 23) (arr w0 26) k = true
        · rw [cnt_t hoP] at h9; first | exact h9 | exact absurd hoP (b2_n0.mp h27)
        · rw [cnt_f (by simpa using hoP)] at h9; first | exact h9 | exact absurd hoP (b2_e0.mp h27)

