-- down: the reference reads all
theorem stopB_f {cd : Nat → Int32} {q : Nat} (h : stopB cd q = q + 5) : cd q = 59 ∧ (¬ kdE (cd (q + 1)) = -9) ∧ dg cd (q + 2) 49 52 ∧ dg cd (q + 3) 48 57 ∧ dg cd (q + 4) 48 57 := by
  unfold stopB at h
  by_cases a1 : cd q = 59
  · rw [if_neg (not_not_intro a1)] at h
    by_cases a2 : kdE (cd (q + 1)) = -9
    · rw [if_pos a2] at h; omega
    · rw [if_neg a2] at h
      by_cases a3 : dg cd (q + 2) 49 52
      · rw [if_neg (not_not_intro a3)] at h
        by_cases a4 : dg cd (q + 3) 48 57
        · rw [if_neg (not_not_intro a4)] at h
          by_cases a5 : dg cd (q + 4) 48 57
          · exact ⟨a1, a2, a3, a4, a5⟩
          · rw [if_pos a5] at h; omega
        · rw [if_pos a4] at h; omega
      · rw [if_pos a3] at h; omega
  · rw [if_pos a1] at h; omega
theorem stopW_f {cd : Nat → Int32} {q : Nat} (h : stopW cd q = q + 4) : cd q = 44 ∧ dg cd (q + 1) 48 57 ∧ dg cd (q + 2) 48 57 ∧ dg cd (q + 3) 49 57 := by
  unfold stopW at h
  by_cases a1 : cd q = 44
  · rw [if_neg (not_not_intro a1)] at h
    by_cases a3 : dg cd (q + 1) 48 57
    · rw [if_neg (not_not_intro a3)] at h
      by_cases a4 : dg cd (q + 2) 48 57
      · rw [if_neg (not_not_intro a4)] at h
        by_cases a5 : dg cd (q + 3) 49 57
        · exact ⟨a1, a3, a4, a5⟩
        · rw [if_pos a5] at h; omega
      · rw [if_pos a4] at h; omega
    · rw [if_pos a3] at h; omega
  · rw [if_pos a1] at h; omega
theorem vX_p {cd : Nat → Int32} {p p' j : Nat} : ∀ a, a < 4 → vX cd p a j = vX cd p' a j
  | 0, _ => rfl
  | 1, _ => rfl
  | 2, _ => rfl
  | 3, _ => rfl
  | a + 4, h => absurd h (by omega)
theorem rbR_lo {cd : Nat → Int32} {q b i : Nat} {R : Nat → Int32} (h : i < 4 * b) : rbR cd q b R i = R i := by
  unfold rbR; rw [pk_un (by omega), pk_un (by omega), pk_un (by omega), pk_un (by omega)]
theorem rbR_at {cd : Nat → Int32} {b p : Nat} {R : Nat → Int32} (h : stopB cd (1 + 5 * b) = 1 + 5 * b + 5) : ∀ a, a < 4 → rbR cd (1 + 5 * b) b R (4 * b + a) = vX cd p a b := by
  obtain ⟨-, -, a3, a4, a5⟩ := stopB_f h
  intro a ha
  unfold rbR
  match a, ha with
  | 0, _ => rw [pk_un (by omega), pk_un (by omega), pk_un (by omega)]; exact pk_us
  | 1, _ => rw [pk_un (by omega), pk_un (by omega), pk_us]; exact if_pos a3
  | 2, _ => rw [pk_un (by omega), pk_us]; exact if_pos a4
  | 3, _ => rw [pk_us]; exact if_pos a5
theorem rwR_lo {cd : Nat → Int32} {q b i : Nat} {R : Nat → Int32} (h : i < 3 * b) : rwR cd q b R i = R i := by
  unfold rwR; rw [pk_un (by omega), pk_un (by omega), pk_un (by omega)]
theorem rwR_at {cd : Nat → Int32} {c p : Nat} {R : Nat → Int32} (h : stopW cd (p + 4 * c) = p + 4 * c + 4) : ∀ a, a < 3 → rwR cd (p + 4 * c) c R (3 * c + a) = vX cd p (4 + a) c := by
  obtain ⟨-, a3, a4, a5⟩ := stopW_f h
  intro a ha
  unfold rwR
  match a, ha with
  | 0, _ => rw [pk_un (by omega), pk_un (by omega)]; exact pk_us.trans (if_pos a3)
  | 1, _ => rw [pk_un (by omega), pk_us]; exact if_pos a4
  | 2, _ => rw [pk_us]; exact if_pos a5
abbrev dsF : List (Nat × Nat) := [(44, 17), (44, 18), (44, 19)]
def dS (w0 : mW) (F : Nat) (cd : Nat → Int32) (p b c : Nat) (w : mW) : Prop := Shape w ∧ Gr [57, 58] dsF w0 w ∧ fld w 44 17 = nI (F + p) ∧ fld w 44 18 = nI b ∧ fld w 44 19 = nI c ∧ (∀ j, j < b → ∀ a, a < 4 → arr w 57 (4 * j + a) = vX cd (1 + 5 * b) a j) ∧ ∀ j, j < c → ∀ a, a < 3 → arr w 58 (3 * j + a) = vX cd (1 + 5 * b) (4 + a) j
theorem dS.sign {w0 w : mW} {F p b c : Nat} {cd : Nat → Int32} (h : dS w0 F cd p b c w) (q : Nat) : dS w0 F cd q b c (setF w 44 17 (nI (F + q))) := by
  obtain ⟨h1, h2, h3, h4, h5, h6, h7⟩ := h
  exact ⟨h1.stF rfl rfl _, h2.stF (by decide) _, fld_setF h1 rfl rfl _, by rw [fld_setF_k (by decide)]; exact h4, by rw [fld_setF_k (by decide)]; exact h5, by rw [arr_setF]; exact h6, by rw [arr_setF]; exact h7⟩
theorem c_X8_isSignS {d : Nat} {w0 w : mW} {F n p b c : Nat} {cd : Nat → Int32} {code : Int32} (hT : cdM w0 F n cd) (h : dS w0 F cd p b c w) (hp : p ≤ n) (hc : ¬ code = -1) : mC d kX8_isSign [.ref 44, .int (nI (F + n)), .int code] w (fun r w' => r = some (.int (b2 (cd p = code))) ∧ dS w0 F cd (if cd p = code then p + 1 else p) b c w') := by
  refine mC.mono (c_X8_isSign (hT.gr h.1 h.2.1 (by decide)) hp h.2.2.1 hc) ?_
  rintro _ w' ⟨rfl, hq⟩
  refine ⟨rfl, ?_⟩
  by_cases z : cd p = code
  · rw [if_pos z] at hq ⊢
    rw [hq]; exact h.sign _
  · rw [if_neg z] at hq ⊢
    rw [hq]; exact h
theorem dS.bar {w0 w w' : mW} {F b : Nat} {cd : Nat → Int32} (h : dS w0 F cd (1 + 5 * b + 1) b 0 w) (e : stopB cd (1 + 5 * b) = 1 + 5 * b + 5) (hS : Shape w') (g : Gr [57] [(44, 17), (44, 18)] w w') (ha : fld w' 44 17 = nI (F + stopB cd (1 + 5 * b))) (hv : stopB cd (1 + 5 * b) = 1 + 5 * b + 5 → fld w' 44 18 = nI (b + 1) ∧ arr w' 57 = rbR cd (1 + 5 * b) b (arr w 57)) : dS w0 F cd (1 + 5 * (b + 1)) (b + 1) 0 w' := by
  obtain ⟨h1, h2, h3, h4, h5, h6, h7⟩ := h
  obtain ⟨v1, v2⟩ := hv e
  refine ⟨hS, h2.tr (g.up (by decide) (by decide)), ?_, v1, ?_, fun j hj a hh => ?_, fun j hj => absurd hj (Nat.not_lt_zero _)⟩
  · rw [ha, e]; rfl
  · rw [g.2 44 19 (by decide)]; exact h5
  · rw [v2]
    by_cases q : j = b
    · subst q; exact rbR_at e a hh
    · rw [rbR_lo (by omega), h6 j (by omega) a hh]; exact vX_p a hh
theorem dS.wal {w0 w w' : mW} {F b c : Nat} {cd : Nat → Int32} (h : dS w0 F cd (1 + 5 * b + 4 * c + 1) b c w) (e : stopW cd (1 + 5 * b + 4 * c) = 1 + 5 * b + 4 * c + 4) (hS : Shape w') (g : Gr [58] [(44, 17), (44, 19)] w w') (ha : fld w' 44 17 = nI (F + stopW cd (1 + 5 * b + 4 * c))) (hv : stopW cd (1 + 5 * b + 4 * c) = 1 + 5 * b + 4 * c + 4 → fld w' 44 19 = nI (c + 1) ∧ arr w' 58 = rwR cd (1 + 5 * b + 4 * c) c (arr w 58)) : dS w0 F cd (1 + 5 * b + 4 * (c + 1)) b (c + 1) w' := by
  obtain ⟨h1, h2, h3, h4, h5, h6, h7⟩ := h
  obtain ⟨v1, v2⟩ := hv e
  refine ⟨hS, h2.tr (g.up (by decide) (by decide)), ?_, ?_, v1, ?_, fun j hj a hh => ?_⟩
  · rw [ha, e]; rfl
  · rw [g.2 44 18 (by decide)]; exact h4
  · rw [g.1 57 (by decide)]; exact h6
  · rw [v2]
    by_cases q : j = c
    · subst q; exact rwR_at e a hh
    · rw [rwR_lo (by omega), h7 j (by omega) a hh]
def rdP (w0 : mW) (F : Nat) (cd : Nat → Int32) (f : Option Nat × Nat × Nat) : Option Value → mW → Prop := fun r w' => (∃ t, f.1 = some t ∧ r = some (.int 0) ∧ Shape w' ∧ Gr [57, 58] dsF w0 w' ∧ fld w' 44 17 = nI (F + t)) ∨ (f.1 = none ∧ r = some (.int 1) ∧ ∃ p, dS w0 F cd p f.2.1 f.2.2 w')
theorem rdP_n {w0 w : mW} {F t : Nat} {cd : Nat → Int32} {f : Option Nat × Nat × Nat} (hS : Shape w) (g : Gr [57, 58] dsF w0 w) (ha : fld w 44 17 = nI (F + t)) (hf : f.1 = some t) : rdP w0 F cd f (some (.int 0)) w := Or.inl ⟨t, hf, rfl, hS, g, ha⟩
theorem rdP_y {w0 w : mW} {F p b c : Nat} {cd : Nat → Int32} {f : Option Nat × Nat × Nat} (h : dS w0 F cd p b c w) (hf : f = (none, b, c)) : rdP w0 F cd f (some (.int 1)) w := by
  subst hf; exact Or.inr ⟨rfl, rfl, p, h⟩
theorem fW_s {cd : Nat → Int32} {n p0 m w : Nat} : fW cd n p0 (m + 1) w = if w = 0 ∨ cd (p0 + 4 * w) = 44 then (if stopW cd (p0 + 4 * w) = p0 + 4 * w + 4 then fW cd n p0 m (w + 1) else (some (stopW cd (p0 + 4 * w)), w)) else (if p0 + 4 * w < n then some (p0 + 4 * w) else none, w) := rfl
theorem fB_s {cd : Nat → Int32} {n m b : Nat} : fB cd n (m + 1) b = if b = 0 ∨ cd (1 + 5 * b) = 59 then (if stopB cd (1 + 5 * b) = 1 + 5 * b + 5 then fB cd n m (b + 1) else (some (stopB cd (1 + 5 * b)), b, 0)) else ((fW cd n (1 + 5 * b) 5 0).1, b, (fW cd n (1 + 5 * b) 5 0).2) := rfl
set_option maxHeartbeats 1000000 in
theorem rd_W {d : Nat} {w : mW} {n F b : Nat} {cd : Nat → Int32} (hT : cdM w F n cd) (hb : b ≤ 5) : ∀ (m c : Nat) (w1 : mW), c + m = 5 → 1 + 5 * b + 4 * c ≤ n → dS w F cd (1 + 5 * b + 4 * c) b c w1 → mJ mX0 (d + 3) kX8_readDown (rdP w F cd ((fW cd n (1 + 5 * b) m c).1, b, (fW cd n (1 + 5 * b) m c).2)) 68 [.ref 44, .int (nI (F + n))] [] w1 := by
  have hF := hT.2.1
  intro m
  induction m with
  | zero =>
    intro c w1 hc hpn h
    obtain rfl : c = 5 := by omega
    have hS := h.1
    refine x_aload_n (pc := 68) (i := 0) dX8_readDown_68 rfl rfl ?_
    refine x_getI (pc := 69) hS fX8_125 dX8_readDown_69 rfl rfl ?_
    rw [h.2.2.2.2.1]
    refine x_if_eq (pc := 72) (tgt := 91) dX8_readDown_72 (by decide) (fun h72 => absurd h72 (by decide)) (fun h72 => ?_)
    refine x_aload_n (pc := 75) (i := 0) dX8_readDown_75 rfl rfl ?_
    refine x_getI (pc := 76) hS fX8_125 dX8_readDown_76 rfl rfl ?_
    rw [h.2.2.2.2.1]
    refine x_iconst (pc := 79) (v := 5) dX8_readDown_79 (by decide) ?_
    refine x_icmp_ge (pc := 80) (tgt := 111) dX8_readDown_80 (by decide) (fun h80 => ?_) (fun h80 => absurd h80 (by decide))
    refine x_aload_n (pc := 111) (i := 0) dX8_readDown_111 rfl rfl ?_
    refine x_getI (pc := 112) hS fX8_98 dX8_readDown_112 rfl rfl ?_
    rw [h.2.2.1]
    refine x_iload_n (pc := 115) (i := 1) dX8_readDown_115 rfl rfl ?_
    refine x_icmp_ne (pc := 116) (tgt := 123) dX8_readDown_116 (by decide) (fun h116 => ?_) (fun h116 => ?_)
    · refine x_iconst (pc := 123) (v := 0) dX8_readDown_123 (by decide) ?_
      refine x_ri (pc := 124) dX8_readDown_124 rfl rfl ?_
      first | (have z9 : 1 + 5 * b + 4 * 5 < n := (by have z8 : ¬ F + (1 + 5 * b + 4 * 5) = F + n := (fun z => h116 (by rw [z])); omega); exact rdP_n h.1 h.2.1 h.2.2.1 (show (if 1 + 5 * b + 4 * 5 < n then some (1 + 5 * b + 4 * 5) else none) = _ from if_pos z9)) | (have z9 : ¬ 1 + 5 * b + 4 * 5 < n := (by have z8 := (nI_eq (by omega) (by omega)).mp h116; omega); exact rdP_y h (by show ((if 1 + 5 * b + 4 * 5 < n then some (1 + 5 * b + 4 * 5) else none), b, 5) = _; rw [if_neg z9]))
    · refine x_iconst (pc := 119) (v := 1) dX8_readDown_119 (by decide) ?_
      refine x_goto (pc := 120) (tgt := 124) dX8_readDown_120 (by decide) ?_
      refine x_ri (pc := 124) dX8_readDown_124 rfl rfl ?_
      first | (have z9 : 1 + 5 * b + 4 * 5 < n := (by have z8 : ¬ F + (1 + 5 * b + 4 * 5) = F + n := (fun z => h116 (by rw [z])); omega); exact rdP_n h.1 h.2.1 h.2.2.1 (show (if 1 + 5 * b + 4 * 5 < n then some (1 + 5 * b + 4 * 5) else none) = _ from if_pos z9)) | (have z9 : ¬ 1 + 5 * b + 4 * 5 < n := (by have z8 := (nI_eq (by omega) (by omega)).mp h116; omega); exact rdP_y h (by show ((if 1 + 5 * b + 4 * 5 < n then some (1 + 5 * b + 4 * 5) else none), b, 5) = _; rw [if_neg z9]))
  | succ m ih =>
    intro c w1 hc hpn h
    have tc : (nI c).toInt = (c : Int) := nI_toInt (by omega)
    have tp : (nI (F + (1 + 5 * b + 4 * c))).toInt = ((F + (1 + 5 * b + 4 * c) : Nat) : Int) := nI_toInt (by omega)
    have tn : (nI (F + n)).toInt = ((F + n : Nat) : Int) := nI_toInt (by omega)
    have t91 : (c = 0 ∨ 1 + 5 * b + 4 * c < n) → mJ mX0 (d + 3) kX8_readDown (rdP w F cd ((fW cd n (1 + 5 * b) (m + 1) c).1, b, (fW cd n (1 + 5 * b) (m + 1) c).2)) 91 [.ref 44, .int (nI (F + n))] [] w1 := by
      intro hor
      have hS := h.1
      refine x_aload_n (pc := 91) (i := 0) dX8_readDown_91 rfl rfl ?_
      refine x_iload_n (pc := 92) (i := 1) dX8_readDown_92 rfl rfl ?_
      refine x_bipush (pc := 93) (v := 44) dX8_readDown_93 (by decide) ?_
      refine x_vs (pc := 95) (As := [_, _]) rfl hS lX8_134 dX8_readDown_95 rfl rfl (Nat.le_of_ble_eq_true rfl) (c_X8_isSignS hT h hpn (by decide)) ?_
      rintro _ w2 ⟨rfl, h2⟩
      have hS := h2.1
      refine x_pushI ?_
      refine x_if_eq (pc := 98) (tgt := 109) dX8_readDown_98 (by decide) (fun h98 => ?_) (fun h98 => ?_)
      · refine x_iconst (pc := 109) (v := 0) dX8_readDown_109 (by decide) ?_
        refine x_ri (pc := 110) dX8_readDown_110 rfl rfl ?_
        first | (have e := b2_e0.mp h106; exact rdP_n hS (h2.2.1.tr (g3.up (by decide) (by decide))) a3 (show (fW cd n (1 + 5 * b) (m + 1) c).1 = _ from by rw [fW_s, if_pos (Or.inr z44), if_neg e])) | (have z := b2_e0.mp h98; rw [if_neg z] at h2; refine rdP_n h2.1 h2.2.1 h2.2.2.1 (show (fW cd n (1 + 5 * b) (m + 1) c).1 = _ from ?_); have e1 : stopW cd (1 + 5 * b + 4 * c) = 1 + 5 * b + 4 * c := if_pos z; by_cases c0 : c = 0; (rw [fW_s, if_pos (Or.inl c0), if_neg (by rw [e1]; omega), e1]); (rw [fW_s, if_neg (fun y => y.elim c0 z), if_pos (hor.resolve_left c0)]))
      · have z44 := b2_n0.mp h98
        rw [if_pos z44] at h2
        have k1 : 1 + 5 * b + 4 * c < n := hT.lt (by rw [z44]; decide)
        refine x_aload_n (pc := 101) (i := 0) dX8_readDown_101 rfl rfl ?_
        refine x_iload_n (pc := 102) (i := 1) dX8_readDown_102 rfl rfl ?_
        refine x_vs (pc := 103) (As := [_]) rfl hS lX8_141 dX8_readDown_103 rfl rfl (Nat.le_of_ble_eq_true rfl) (c_X8_readWalker (hT.gr h2.1 h2.2.1 (by decide)) z44 (by omega) h2.2.2.1 h2.2.2.2.2.1 (by omega)) ?_
        rintro _ w3 ⟨rfl, hS, g3, a3, v3⟩
        refine x_pushI ?_
        refine x_if_ne (pc := 106) (tgt := 68) dX8_readDown_106 (by decide) (fun h106 => ?_) (fun h106 => ?_)
        · have e := b2_n0.mp h106
          rw [show fW cd n (1 + 5 * b) (m + 1) c = fW cd n (1 + 5 * b) m (c + 1) from by rw [fW_s, if_pos (Or.inr z44), if_pos e]]
          have k3 : 1 + 5 * b + 4 * c + 3 < n := hT.lt (dg_ne (by decide) (stopW_f e).2.2.2)
          exact ih (c + 1) w3 (by omega) (by omega) (h2.wal e hS g3 a3 v3)
        · refine x_iconst (pc := 109) (v := 0) dX8_readDown_109 (by decide) ?_
          refine x_ri (pc := 110) dX8_readDown_110 rfl rfl ?_
          first | (have e := b2_e0.mp h106; exact rdP_n hS (h2.2.1.tr (g3.up (by decide) (by decide))) a3 (show (fW cd n (1 + 5 * b) (m + 1) c).1 = _ from by rw [fW_s, if_pos (Or.inr z44), if_neg e])) | (have z := b2_e0.mp h98; rw [if_neg z] at h2; refine rdP_n h2.1 h2.2.1 h2.2.2.1 (show (fW cd n (1 + 5 * b) (m + 1) c).1 = _ from ?_); have e1 : stopW cd (1 + 5 * b + 4 * c) = 1 + 5 * b + 4 * c := if_pos z; by_cases c0 : c = 0; (rw [fW_s, if_pos (Or.inl c0), if_neg (by rw [e1]; omega), e1]); (rw [fW_s, if_neg (fun y => y.elim c0 z), if_pos (hor.resolve_left c0)]))
    have hS := h.1
    refine x_aload_n (pc := 68) (i := 0) dX8_readDown_68 rfl rfl ?_
    refine x_getI (pc := 69) hS fX8_125 dX8_readDown_69 rfl rfl ?_
    rw [h.2.2.2.2.1]
    refine x_if_eq (pc := 72) (tgt := 91) dX8_readDown_72 (by decide) (fun h72 => ?_) (fun h72 => ?_)
    · first | exact t91 (Or.inl ((nI0 (by omega)).mp h72)) | (have z8 : 1 + 5 * b + 4 * c < n := (by rw [i_le, tp, tn] at h88; omega); exact t91 (Or.inr z8))
    · refine x_aload_n (pc := 75) (i := 0) dX8_readDown_75 rfl rfl ?_
      refine x_getI (pc := 76) hS fX8_125 dX8_readDown_76 rfl rfl ?_
      rw [h.2.2.2.2.1]
      refine x_iconst (pc := 79) (v := 5) dX8_readDown_79 (by decide) ?_
      refine x_icmp_ge (pc := 80) (tgt := 111) dX8_readDown_80 (by decide) (fun h80 => absurd h80 (by rw [i_le, il_5, tc]; omega)) (fun h80 => ?_)
      refine x_aload_n (pc := 83) (i := 0) dX8_readDown_83 rfl rfl ?_
      refine x_getI (pc := 84) hS fX8_98 dX8_readDown_84 rfl rfl ?_
      rw [h.2.2.1]
      refine x_iload_n (pc := 87) (i := 1) dX8_readDown_87 rfl rfl ?_
      refine x_icmp_ge (pc := 88) (tgt := 111) dX8_readDown_88 (by decide) (fun h88 => ?_) (fun h88 => ?_)
      · have z9 : 1 + 5 * b + 4 * c = n := (by rw [i_le, tp, tn] at h88; omega)
        refine x_aload_n (pc := 111) (i := 0) dX8_readDown_111 rfl rfl ?_
        refine x_getI (pc := 112) hS fX8_98 dX8_readDown_112 rfl rfl ?_
        rw [h.2.2.1]
        refine x_iload_n (pc := 115) (i := 1) dX8_readDown_115 rfl rfl ?_
        refine x_icmp_ne (pc := 116) (tgt := 123) dX8_readDown_116 (by decide) (fun h116 => absurd h116 (by exact not_not_intro (by rw [z9]))) (fun h116 => ?_)
        refine x_iconst (pc := 119) (v := 1) dX8_readDown_119 (by decide) ?_
        refine x_goto (pc := 120) (tgt := 124) dX8_readDown_120 (by decide) ?_
        refine x_ri (pc := 124) dX8_readDown_124 rfl rfl ?_
        refine rdP_y h ?_
        have z7 : ¬ cd (1 + 5 * b + 4 * c) = 44 := by rw [hT.2.2.2 _ (by omega)]; decide
        rw [fW_s, if_neg (fun y => y.elim (fun y => h72 (by rw [y]; rfl)) z7), if_neg (by omega)]
      · first | exact t91 (Or.inl ((nI0 (by omega)).mp h72)) | (have z8 : 1 + 5 * b + 4 * c < n := (by rw [i_le, tp, tn] at h88; omega); exact t91 (Or.inr z8))
set_option maxHeartbeats 1000000 in
theorem rd_B {d : Nat} {w : mW} {n F : Nat} {cd : Nat → Int32} (hT : cdM w F n cd) : ∀ (m b : Nat) (w1 : mW), b + m = 5 → 1 ≤ b → 1 + 5 * b ≤ n → dS w F cd (1 + 5 * b) b 0 w1 → mJ mX0 (d + 3) kX8_readDown (rdP w F cd (fB cd n m b)) 40 [.ref 44, .int (nI (F + n))] [] w1 := by
  have hF := hT.2.1
  intro m
  induction m with
  | zero =>
    intro b w1 hb hb1 hpn h
    obtain rfl : b = 5 := by omega
    have hS := h.1
    refine x_aload_n (pc := 40) (i := 0) dX8_readDown_40 rfl rfl ?_
    refine x_getI (pc := 41) hS fX8_122 dX8_readDown_41 rfl rfl ?_
    rw [h.2.2.2.1]
    refine x_iconst (pc := 44) (v := 5) dX8_readDown_44 (by decide) ?_
    refine x_icmp_ge (pc := 45) (tgt := 68) dX8_readDown_45 (by decide) (fun h45 => ?_) (fun h45 => absurd h45 (by decide))
    exact rd_W hT (by omega) 5 0 w1 rfl hpn h
  | succ m ih =>
    intro b w1 hb hb1 hpn h
    have tb : (nI b).toInt = (b : Int) := nI_toInt (by omega)
    have hS := h.1
    refine x_aload_n (pc := 40) (i := 0) dX8_readDown_40 rfl rfl ?_
    refine x_getI (pc := 41) hS fX8_122 dX8_readDown_41 rfl rfl ?_
    rw [h.2.2.2.1]
    refine x_iconst (pc := 44) (v := 5) dX8_readDown_44 (by decide) ?_
    refine x_icmp_ge (pc := 45) (tgt := 68) dX8_readDown_45 (by decide) (fun h45 => absurd h45 (by rw [i_le, il_5, tb]; omega)) (fun h45 => ?_)
    refine x_aload_n (pc := 48) (i := 0) dX8_readDown_48 rfl rfl ?_
    refine x_iload_n (pc := 49) (i := 1) dX8_readDown_49 rfl rfl ?_
    refine x_bipush (pc := 50) (v := 59) dX8_readDown_50 (by decide) ?_
    refine x_vs (pc := 52) (As := [_, _]) rfl hS lX8_134 dX8_readDown_52 rfl rfl (Nat.le_of_ble_eq_true rfl) (c_X8_isSignS hT h hpn (by decide)) ?_
    rintro _ w2 ⟨rfl, h2⟩
    have hS := h2.1
    refine x_pushI ?_
    refine x_if_eq (pc := 55) (tgt := 68) dX8_readDown_55 (by decide) (fun h55 => ?_) (fun h55 => ?_)
    · have z := b2_e0.mp h55
      rw [if_neg z] at h2
      rw [fB_s, if_neg (fun y => y.elim (by omega) z)]
      exact rd_W hT (by omega) 5 0 w2 rfl hpn h2
    · have z59 := b2_n0.mp h55
      rw [if_pos z59] at h2
      have k1 : 1 + 5 * b < n := hT.lt (by rw [z59]; decide)
      refine x_aload_n (pc := 58) (i := 0) dX8_readDown_58 rfl rfl ?_
      refine x_iload_n (pc := 59) (i := 1) dX8_readDown_59 rfl rfl ?_
      refine x_vs (pc := 60) (As := [_]) rfl hS lX8_138 dX8_readDown_60 rfl rfl (Nat.le_of_ble_eq_true rfl) (c_X8_readBarrow (hT.gr h2.1 h2.2.1 (by decide)) z59 (by omega) h2.2.2.1 h2.2.2.2.1 (by omega)) ?_
      rintro _ w3 ⟨rfl, hS, g3, a3, v3⟩
      refine x_pushI ?_
      refine x_if_ne (pc := 63) (tgt := 40) dX8_readDown_63 (by decide) (fun h63 => ?_) (fun h63 => ?_)
      · have e := b2_n0.mp h63
        rw [show fB cd n (m + 1) b = fB cd n m (b + 1) from by rw [fB_s, if_pos (Or.inr z59), if_pos e]]
        have k3 : 1 + 5 * b + 4 < n := hT.lt (dg_ne (by decide) (stopB_f e).2.2.2.2)
        exact ih (b + 1) w3 (by omega) (by omega) (by omega) (h2.bar e hS g3 a3 v3)
      · refine x_iconst (pc := 66) (v := 0) dX8_readDown_66 (by decide) ?_
        refine x_ri (pc := 67) dX8_readDown_67 rfl rfl ?_
        have e := b2_e0.mp h63
        exact rdP_n hS (h2.2.1.tr (g3.up (by decide) (by decide))) a3 (by rw [fB_s, if_pos (Or.inr z59), if_neg e])
set_option maxHeartbeats 1000000 in
theorem c_X8_readDown {d : Nat} {w : mW} {n F : Nat} {cd : Nat → Int32} (hT : cdM w F n cd) (hat : fld w 44 17 = nI F) : mC (d + 3) kX8_readDown [.ref 44, .int (nI (F + n))] w (rdP w F cd (fT cd n)) := by
  have hS := hT.1
  have h0 : dS w F cd 0 0 0 (setF (setF w 44 18 0) 44 19 0) := ⟨(hS.stF rfl rfl _).stF rfl rfl _, (Gr.rf.stF (by decide) _).stF (by decide) _, by rw [fld_setF_k (by decide), fld_setF_k (by decide)]; exact hat, by rw [fld_setF_k (by decide), fld_setF hS rfl rfl]; rfl, by rw [fld_setF (hS.stF rfl rfl _) rfl rfl]; rfl, fun j hj => absurd hj (Nat.not_lt_zero _), fun j hj => absurd hj (Nat.not_lt_zero _)⟩
  refine mC.of (L := [_, _]) okX8_readDown 0 rfl rfl ?_
  refine x_aload_n (pc := 0) (i := 0) dX8_readDown_0 rfl rfl ?_
  refine x_iconst (pc := 1) (v := 0) dX8_readDown_1 (by decide) ?_
  refine x_putI (pc := 2) hS fX8_122 dX8_readDown_2 rfl rfl rfl rfl (fun hS => ?_)
  refine x_aload_n (pc := 5) (i := 0) dX8_readDown_5 rfl rfl ?_
  refine x_iconst (pc := 6) (v := 0) dX8_readDown_6 (by decide) ?_
  refine x_putI (pc := 7) hS fX8_125 dX8_readDown_7 rfl rfl rfl rfl (fun hS => ?_)
  refine x_aload_n (pc := 10) (i := 0) dX8_readDown_10 rfl rfl ?_
  refine x_iload_n (pc := 11) (i := 1) dX8_readDown_11 rfl rfl ?_
  refine x_bipush (pc := 12) (v := 100) dX8_readDown_12 (by decide) ?_
  refine x_vs (pc := 14) (As := [_, _]) rfl hS lX8_134 dX8_readDown_14 rfl rfl (Nat.le_of_ble_eq_true rfl) (c_X8_isSignS hT h0 (Nat.zero_le _) (by decide)) ?_
  rintro _ w1 ⟨rfl, h1⟩
  have hS := h1.1
  refine x_pushI ?_
  refine x_if_eq (pc := 17) (tgt := 38) dX8_readDown_17 (by decide) (fun h17 => ?_) (fun h17 => ?_)
  · refine x_iconst (pc := 38) (v := 0) dX8_readDown_38 (by decide) ?_
    refine x_ri (pc := 39) dX8_readDown_39 rfl rfl ?_
    first | (have e := b2_e0.mp h35; exact rdP_n hS (h2.2.1.tr (g3.up (by decide) (by decide))) a3 (by unfold fT; rw [if_pos z100, fB_s, if_pos (Or.inl rfl), if_neg e])) | (have z := b2_e0.mp h27; rw [if_neg z] at h2; exact rdP_n h2.1 h2.2.1 h2.2.2.1 (by unfold fT; have e1 : stopB cd (1 + 5 * 0) = 0 + 1 := if_pos z; rw [if_pos z100, fB_s, if_pos (Or.inl rfl), if_neg (by rw [e1]; omega), e1])) | (have z := b2_e0.mp h17; rw [if_neg z] at h1; exact rdP_n h1.1 h1.2.1 h1.2.2.1 (by unfold fT; rw [if_neg z]))
  · have z100 := b2_n0.mp h17
    rw [if_pos z100] at h1
    have k0 : 0 < n := hT.lt (by rw [z100]; decide)
    refine x_aload_n (pc := 20) (i := 0) dX8_readDown_20 rfl rfl ?_
    refine x_iload_n (pc := 21) (i := 1) dX8_readDown_21 rfl rfl ?_
    refine x_bipush (pc := 22) (v := 59) dX8_readDown_22 (by decide) ?_
    refine x_vs (pc := 24) (As := [_, _]) rfl hS lX8_134 dX8_readDown_24 rfl rfl (Nat.le_of_ble_eq_true rfl) (c_X8_isSignS hT h1 (by omega) (by decide)) ?_
    rintro _ w2 ⟨rfl, h2⟩
    have hS := h2.1
    refine x_pushI ?_
    refine x_if_eq (pc := 27) (tgt := 38) dX8_readDown_27 (by decide) (fun h27 => ?_) (fun h27 => ?_)
    · refine x_iconst (pc := 38) (v := 0) dX8_readDown_38 (by decide) ?_
      refine x_ri (pc := 39) dX8_readDown_39 rfl rfl ?_
      first | (have e := b2_e0.mp h35; exact rdP_n hS (h2.2.1.tr (g3.up (by decide) (by decide))) a3 (by unfold fT; rw [if_pos z100, fB_s, if_pos (Or.inl rfl), if_neg e])) | (have z := b2_e0.mp h27; rw [if_neg z] at h2; exact rdP_n h2.1 h2.2.1 h2.2.2.1 (by unfold fT; have e1 : stopB cd (1 + 5 * 0) = 0 + 1 := if_pos z; rw [if_pos z100, fB_s, if_pos (Or.inl rfl), if_neg (by rw [e1]; omega), e1])) | (have z := b2_e0.mp h17; rw [if_neg z] at h1; exact rdP_n h1.1 h1.2.1 h1.2.2.1 (by unfold fT; rw [if_neg z]))
    · have z59 := b2_n0.mp h27
      rw [if_pos z59] at h2
      have k1 : 1 < n := hT.lt (by rw [z59]; decide)
      refine x_aload_n (pc := 30) (i := 0) dX8_readDown_30 rfl rfl ?_
      refine x_iload_n (pc := 31) (i := 1) dX8_readDown_31 rfl rfl ?_
      refine x_vs (pc := 32) (As := [_]) rfl hS lX8_138 dX8_readDown_32 rfl rfl (Nat.le_of_ble_eq_true rfl) (c_X8_readBarrow (q := 1) (b := 0) (hT.gr h2.1 h2.2.1 (by decide)) z59 (by omega) h2.2.2.1 h2.2.2.2.1 (by omega)) ?_
      rintro _ w3 ⟨rfl, hS, g3, a3, v3⟩
      refine x_pushI ?_
      refine x_if_ne (pc := 35) (tgt := 40) dX8_readDown_35 (by decide) (fun h35 => ?_) (fun h35 => ?_)
      · have e := b2_n0.mp h35
        have k3 : 1 + 4 < n := hT.lt (dg_ne (by decide) (stopB_f e).2.2.2.2)
        rw [show fT cd n = fB cd n 4 1 from by unfold fT; rw [if_pos z100, fB_s, if_pos (Or.inl rfl), if_pos e]]
        exact rd_B hT 4 1 w3 rfl (by omega) (by omega) (dS.bar (b := 0) h2 e hS g3 a3 v3)
      · refine x_iconst (pc := 38) (v := 0) dX8_readDown_38 (by decide) ?_
        refine x_ri (pc := 39) dX8_readDown_39 rfl rfl ?_
        first | (have e := b2_e0.mp h35; exact rdP_n hS (h2.2.1.tr (g3.up (by decide) (by decide))) a3 (by unfold fT; rw [if_pos z100, fB_s, if_pos (Or.inl rfl), if_neg e])) | (have z := b2_e0.mp h27; rw [if_neg z] at h2; exact rdP_n h2.1 h2.2.1 h2.2.2.1 (by unfold fT; have e1 : stopB cd (1 + 5 * 0) = 0 + 1 := if_pos z; rw [if_pos z100, fB_s, if_pos (Or.inl rfl), if_neg (by rw [e1]; omega), e1])) | (have z := b2_e0.mp h17; rw [if_neg z] at h1; exact rdP_n h1.1 h1.2.1 h1.2.2.1 (by unfold fT; rw [if_neg z]))

