-- the class: who can be housed
def xHW (w : mW) (row be left : Nat → Int32) (mo le : Int32) : mW := setF (setF (setA (setA (setA w 31 row) 32 be) 33 left) 30 3 mo) 30 4 le
section
variable {w : mW} {row be left x : Nat → Int32} {mo le y : Int32}
theorem xHW_S (hS : Shape w) : Shape (xHW w row be left mo le) := ((((hS.stA 31 _).stA 32 _).stA 33 _).stF rfl rfl _).stF rfl rfl _
theorem xHW_31 (hS : Shape w) : arr (xHW w row be left mo le) 31 = row := by unfold xHW; rw [arr_setF, arr_setF, arr_setA_a (by decide), arr_setA_a (by decide), arr_setA hS rfl]
theorem xHW_32 (hS : Shape w) : arr (xHW w row be left mo le) 32 = be := by unfold xHW; rw [arr_setF, arr_setF, arr_setA_a (by decide), arr_setA (hS.stA _ _) rfl]
theorem xHW_33 (hS : Shape w) : arr (xHW w row be left mo le) 33 = left := by unfold xHW; rw [arr_setF, arr_setF, arr_setA ((hS.stA _ _).stA _ _) rfl]
theorem xHW_a {a : Nat} (h1 : a ≠ 31) (h2 : a ≠ 32) (h3 : a ≠ 33) : arr (xHW w row be left mo le) a = arr w a := by unfold xHW; rw [arr_setF, arr_setF, arr_setA_a h3, arr_setA_a h2, arr_setA_a h1]
theorem xHW_3 (hS : Shape w) : fld (xHW w row be left mo le) 30 3 = mo := by unfold xHW; rw [fld_setF_k (by decide), fld_setF (((hS.stA _ _).stA _ _).stA _ _) rfl rfl]
theorem xHW_4 (hS : Shape w) : fld (xHW w row be left mo le) 30 4 = le := by unfold xHW; rw [fld_setF ((((hS.stA _ _).stA _ _).stA _ _).stF rfl rfl _) rfl rfl]
theorem xHW_f {a k : Nat} (h : a ≠ 30) : fld (xHW w row be left mo le) a k = fld w a k := by unfold xHW; rw [fld_setF_a h, fld_setF_a h, fld_setA, fld_setA, fld_setA]
theorem xHW_s31 : setA (xHW w row be left mo le) 31 x = xHW w x be left mo le := by unfold xHW; rw [setA_setF _ (by decide), setA_setF _ (by decide), setA_comm _ (show (33 : Nat) ≠ 31 by decide), setA_comm _ (show (32 : Nat) ≠ 31 by decide), setA_setA]
theorem xHW_s32 : setA (xHW w row be left mo le) 32 x = xHW w row x left mo le := by unfold xHW; rw [setA_setF _ (by decide), setA_setF _ (by decide), setA_comm _ (show (33 : Nat) ≠ 32 by decide), setA_setA]
theorem xHW_s33 : setA (xHW w row be left mo le) 33 x = xHW w row be x mo le := by unfold xHW; rw [setA_setF _ (by decide), setA_setF _ (by decide), setA_setA]
theorem xHW_s3 : setF (xHW w row be left mo le) 30 3 y = xHW w row be left y le := by unfold xHW; rw [setF_comm _ (show (4 : Nat) ≠ 3 by decide), setF_setF]
theorem xHW_s4 : setF (xHW w row be left mo le) 30 4 y = xHW w row be left mo y := by unfold xHW; rw [setF_setF]
theorem xHW_self (hS : Shape w) : xHW w (arr w 31) (arr w 32) (arr w 33) (fld w 30 3) (fld w 30 4) = w := by
  unfold xHW
  rw [setA_self hS rfl, setA_self hS rfl, setA_self hS rfl, setF_self hS rfl rfl, setF_self hS rfl rfl]
end
theorem nI_subN {a j : Nat} (h : j ≤ a) (ha : a < 2 ^ 31) : nI a - nI j = nI (a - j) := by
  rw [i_eq, i_sub, nI_toInt ha, nI_toInt (by omega), nI_toInt (by omega)]
  · omega
  · rw [nI_toInt ha, nI_toInt (by omega)]; omega
  · rw [nI_toInt ha, nI_toInt (by omega)]; omega
theorem c_X1_keep {d : Nat} {w : mW} {row be left : Nat → Int32} {mo le c p : Int32} {nw : Nat} (hS0 : Shape w) (hnw : nw ≤ 5) : mC d kX1_keep [.ref 30, .int (nI nw), .int c, .int p] (xHW w row be left mo le) (fun r w' => r = none ∧ w' = xHW w row (tkI nw row be) left c p) := by
  have tw : (nI nw).toInt = (nw : Int) := nI_toInt (by omega)
  have lp : ∀ (m k : Nat), k ≤ nw → nw < k + m → mJ mX0 d kX1_keep (fun r w' => r = none ∧ w' = xHW w row (tkI nw row be) left c p) 13 [.ref 30, .int (nI nw), .int c, .int p, .int (nI k)] [] (xHW w row (tkI k row be) left c p) := by
    intro m
    induction m with
    | zero => intro k h1 h2; omega
    | succ m ih =>
      intro k hk1 hk2
      have tk : (nI k).toInt = (k : Int) := nI_toInt (by omega)
      have hS : Shape (xHW w row (tkI k row be) left c p) := xHW_S hS0
      refine x_iload (pc := 13) dX1_keep_13 rfl ?_
      refine x_iload_n (pc := 15) (i := 1) dX1_keep_15 rfl rfl ?_
      refine x_icmp_ge (pc := 16) (tgt := 39) dX1_keep_16 (by decide) (fun h16 => ?_) (fun h16 => ?_)
      · refine x_rv (pc := 39) dX1_keep_39 rfl ?_
        exact ⟨rfl, by rw [show k = nw by (try simp only [b2_e0, b2_n0, Decidable.not_not] at *) <;> (try simp only [i_lt, i_le, i_eq, not_and, not_or, ne_eq, il_0, il_1, il_2, il_3, il_4, il_5, il_6, il_7, il_8, il_9, il_10, il_14, il_15, il_19, il_20, il_24, il_30, il_31, il_44, il_48, il_49, il_52, il_57, il_59, il_60, il_70, il_99, il_100, il_103, il_108, il_114, il_m1, il_m2, il_m3, il_m4, il_m9, il_m10, il_m100] at *) <;> omega]⟩
      · refine x_aload_n (pc := 19) (i := 0) dX1_keep_19 rfl rfl ?_
        refine x_getR (pc := 20) hS fX1_15 dX1_keep_20 rfl rfl ?_
        refine x_iload (pc := 23) dX1_keep_23 rfl ?_
        refine x_aload_n (pc := 25) (i := 0) dX1_keep_25 rfl rfl ?_
        refine x_getR (pc := 26) hS fX1_9 dX1_keep_26 rfl rfl ?_
        refine x_iload (pc := 29) dX1_keep_29 rfl ?_
        refine x_aldN (pc := 31) hS dX1_keep_31 rfl (by (try simp only [b2_e0, b2_n0, Decidable.not_not] at *) <;> (try simp only [i_lt, i_le, i_eq, not_and, not_or, ne_eq, il_0, il_1, il_2, il_3, il_4, il_5, il_6, il_7, il_8, il_9, il_10, il_14, il_15, il_19, il_20, il_24, il_30, il_31, il_44, il_48, il_49, il_52, il_57, il_59, il_60, il_70, il_99, il_100, il_103, il_108, il_114, il_m1, il_m2, il_m3, il_m4, il_m9, il_m10, il_m100] at *) <;> omega) (by decide) ?_
        rw [xHW_31 hS0]
        refine x_astN (pc := 32) hS dX1_keep_32 rfl (by (try simp only [b2_e0, b2_n0, Decidable.not_not] at *) <;> (try simp only [i_lt, i_le, i_eq, not_and, not_or, ne_eq, il_0, il_1, il_2, il_3, il_4, il_5, il_6, il_7, il_8, il_9, il_10, il_14, il_15, il_19, il_20, il_24, il_30, il_31, il_44, il_48, il_49, il_52, il_57, il_59, il_60, il_70, il_99, il_100, il_103, il_108, il_114, il_m1, il_m2, il_m3, il_m4, il_m9, il_m10, il_m100] at *) <;> omega) (by decide) (fun hS => ?_)
        rw [xHW_32 hS0, xHW_s32, tkI_s]
        refine x_iinc (pc := 33) (L' := [_, _, _, _, _]) dX1_keep_33 (by decide) rfl (by first | exact nI_inc _ | rfl) rfl ?_
        refine x_goto (pc := 36) (tgt := 13) dX1_keep_36 (by decide) ?_
        exact ih (k + 1) (by (try simp only [b2_e0, b2_n0, Decidable.not_not] at *) <;> (try simp only [i_lt, i_le, i_eq, not_and, not_or, ne_eq, il_0, il_1, il_2, il_3, il_4, il_5, il_6, il_7, il_8, il_9, il_10, il_14, il_15, il_19, il_20, il_24, il_30, il_31, il_44, il_48, il_49, il_52, il_57, il_59, il_60, il_70, il_99, il_100, il_103, il_108, il_114, il_m1, il_m2, il_m3, il_m4, il_m9, il_m10, il_m100] at *) <;> omega) (by omega)
  have hS : Shape (xHW w row be left mo le) := xHW_S hS0
  refine mC.of (L := [_, _, _, _, _]) okX1_keep 1 rfl rfl ?_
  refine x_aload_n (pc := 0) (i := 0) dX1_keep_0 rfl rfl ?_
  refine x_iload_n (pc := 1) (i := 2) dX1_keep_1 rfl rfl ?_
  refine x_putI (pc := 2) hS fX1_31 dX1_keep_2 rfl rfl rfl rfl (fun hS => ?_)
  rw [xHW_s3]
  have hS : Shape (xHW w row be left c le) := xHW_S hS0
  refine x_aload_n (pc := 5) (i := 0) dX1_keep_5 rfl rfl ?_
  refine x_iload_n (pc := 6) (i := 3) dX1_keep_6 rfl rfl ?_
  refine x_putI (pc := 7) hS fX1_34 dX1_keep_7 rfl rfl rfl rfl (fun hS => ?_)
  rw [xHW_s4]
  refine x_iconst (pc := 10) (v := 0) dX1_keep_10 (by decide) ?_
  refine x_istore (pc := 11) (L' := [_, _, _, _, _]) dX1_keep_11 (by decide) rfl ?_
  have h9 := lp (nw + 1) 0 (by omega) (by omega)
  rw [tkI_0] at h9
  exact h9
def hGd (nb j : Nat) (L0 : Nat → Nat) (ok : Nat → Nat → Bool) (ρ : Nat → Nat) (left : Nat → Int32) : Prop := (∀ i, i < j → ρ i ≤ nb ∧ (ρ i < nb → ok i (ρ i) = true)) ∧ ∀ b, b < nb → ∃ l, left b = nI l ∧ l + hIn ρ b j = L0 b
theorem hGd.leaf {nb n : Nat} {L0 H : Nat → Nat} {ok : Nat → Nat → Bool} {ρ : Nat → Nat} {left : Nat → Int32} (h : hGd nb n L0 ok ρ left) (hL : ∀ b, b < nb → L0 b ≤ H b) : hCan nb n H ok ρ = true := by
  unfold hCan hHeld
  rw [Bool.and_eq_true, allN_iff, allN_iff]
  refine ⟨fun i hi => ?_, fun b hb => ?_⟩
  · by_cases e : ρ i < nb
    · rw [(h.1 i hi).2 e, Bool.or_true]
    · rw [decide_eq_false e]; rfl
  · obtain ⟨l, h1, h2⟩ := h.2 b hb
    have := hL b hb
    exact decide_eq_true (by omega)
theorem hGd.none {nb j : Nat} {L0 : Nat → Nat} {ok : Nat → Nat → Bool} {ρ : Nat → Nat} {left : Nat → Int32} (h : hGd nb j L0 ok ρ left) : hGd nb (j + 1) L0 ok (ud ρ j nb) left := by
  refine ⟨fun i hi => ?_, fun b hb => ?_⟩
  · by_cases e : i = j
    · subst e; rw [ud_eq]; exact ⟨Nat.le_refl _, fun q => by omega⟩
    · rw [ud_ne e]; exact h.1 i (by omega)
  · obtain ⟨l, h1, h2⟩ := h.2 b hb
    refine ⟨l, h1, ?_⟩
    rw [hIn_s, ud_eq, if_neg (by omega), hIn_congr (ρ' := ρ) (fun i hi => ud_ne (by omega))]
    omega
theorem hGd.some {nb j c l : Nat} {L0 : Nat → Nat} {ok : Nat → Nat → Bool} {ρ : Nat → Nat} {left : Nat → Int32} (h : hGd nb j L0 ok ρ left) (hc : c < nb) (hl : left c = nI (l + 1)) (hl2 : l ≤ 10) (hb : ∀ b, b < nb → L0 b ≤ 8) (ho : ok j c = true) : hGd nb (j + 1) L0 ok (ud ρ j c) (upd left c (nI l)) := by
  refine ⟨fun i hi => ?_, fun b hbn => ?_⟩
  · by_cases e : i = j
    · subst e; rw [ud_eq]; exact ⟨by omega, fun _ => ho⟩
    · rw [ud_ne e]; exact h.1 i (by omega)
  · obtain ⟨l', h1, h2⟩ := h.2 b hbn
    have := hb b hbn
    by_cases e : b = c
    · subst e
      rw [hl, nI_eq (by omega) (by omega)] at h1
      refine ⟨l, by unfold upd; rw [if_pos rfl], ?_⟩
      rw [hIn_s, ud_eq, if_pos rfl, hIn_congr (ρ' := ρ) (fun i hi => ud_ne (by omega))]
      omega
    · refine ⟨l', by unfold upd; rw [if_neg e]; exact h1, ?_⟩
      rw [hIn_s, ud_eq, if_neg (Ne.symm e), hIn_congr (ρ' := ρ) (fun i hi => ud_ne (by omega))]
      omega
theorem nI_n9' {j : Nat} (h : j ≤ 1000) : ¬ nI j = -9 := by
  intro e
  have := congrArg Int32.toInt e
  rw [nI_toInt (by omega), il_m9] at this
  omega
theorem hBad {H L0 h l : Nat} {nw j : Nat} {ok : Nat → Nat → Bool} {b : Nat} (hL : L0 ≤ H ∧ H ≤ 8 ∧ (L0 < H → ∀ i, i < nw → ok i b = false)) (hj : j < nw) (hl : l + h = L0) (hc : l = 0 ∨ ¬ ok j b = true) : ok j b = false ∨ H ≤ h := by
  by_cases e : ok j b = true
  · right
    rcases hc with hc | hc
    · rcases Nat.lt_or_ge L0 H with q | q
      · rw [hL.2.2 q j hj] at e; cases e
      · omega
    · exact absurd e hc
  · left
    cases hq : ok j b with
    | true => exact absurd hq e
    | false => rfl
theorem hoX_c1 {n : Nat} {s : hSt} {mo le : Int32} {be : Nat → Int32} {a p : Nat} (hx : hoX n s mo le be) (ho : hOK n s) (hn : n ≤ 5) (ha : a ≤ 20) (h : nI a < mo) : hCut a p s := by
  match s, hx, ho with
  | none, hx, _ =>
    have hx : mo = -9 := hx
    rw [hx, i_lt, il_m9, nI_toInt (by omega)] at h; omega
  | some (c', p', ρ), hx, ho =>
    obtain ⟨e1, e2, -⟩ := hx
    obtain ⟨o1, o2⟩ := ho
    rw [e1, i_lt, nI_toInt (by omega), nI_toInt (by omega)] at h
    exact Or.inl (by omega)
theorem hoX_c2 {n : Nat} {s : hSt} {mo le : Int32} {be : Nat → Int32} {a p : Nat} (hx : hoX n s mo le be) (ho : hOK n s) (hn : n ≤ 5) (ha : a ≤ 20) (hp : p ≤ 100) (h : nI a = mo) (h2 : ¬ nI p < le) : hCut a p s := by
  match s, hx, ho with
  | none, hx, _ =>
    have hx : mo = -9 := hx
    rw [hx] at h; exact absurd h (nI_n9' (by omega))
  | some (c', p', ρ), hx, ho =>
    obtain ⟨e1, e2, -⟩ := hx
    obtain ⟨o1, o2⟩ := ho
    rw [e1, nI_eq (by omega) (by omega)] at h
    rw [e2, i_lt, nI_toInt (by omega), nI_toInt (by omega)] at h2
    exact Or.inr ⟨h, by omega⟩
theorem hoX_E {n : Nat} {s : hSt} {mo le : Int32} {be : Nat → Int32} {c p : Nat} (hx : hoX n s mo le be) (ho : hOK n s) (hn : n ≤ 5) (hc : c ≤ 5) (h1 : ¬ nI c < mo) (h2 : ¬ nI c = mo) : hMore c p s = true := by
  match s, hx, ho with
  | none, hx, _ => rfl
  | some (c', p', ρ), hx, ho =>
    obtain ⟨e1, e2, -⟩ := hx
    obtain ⟨o1, o2⟩ := ho
    rw [e1, i_lt, nI_toInt (by omega), nI_toInt (by omega)] at h1
    rw [e1, nI_eq (by omega) (by omega)] at h2
    simp [hMore]; omega
theorem hCn_ud {nb j c : Nat} {ρ : Nat → Nat} : hCn nb (ud ρ j c) (j + 1) = hCn nb ρ j + (if c < nb then 1 else 0) := by
  rw [hCn_s, ud_eq, hCn_congr (ρ' := ρ) (fun i hi => ud_ne (by omega))]
theorem hPr_ud {nb j c : Nat} {pN ρ : Nat → Nat} : hPr nb pN (ud ρ j c) (j + 1) = hPr nb pN ρ j + (if c < nb then pN c else 0) := by
  rw [hPr, ud_eq, hPr_congr (ρ' := ρ) (fun i hi => ud_ne (by omega))]
theorem row_ud {j c : Nat} {row : Nat → Int32} {ρ : Nat → Nat} (h : ∀ i, i < j → row i = nI (ρ i)) : ∀ i, i < j + 1 → upd row j (nI c) i = nI (ud ρ j c i) := by
  intro i hi
  unfold upd ud
  by_cases e : i = j
  · rw [if_pos e, if_pos e]
  · rw [if_neg e, if_neg e]; exact h i (by omega)
set_option maxHeartbeats 4000000 in
theorem c_X1_place {d : Nat} {w : mW} {nb nw : Nat} {pN H L0 : Nat → Nat} {ok : Nat → Nat → Bool} (hS0 : Shape w) (tb : (fld w 7 0).toInt = (nb : Int)) (hnb : nb ≤ 5) (tw : (fld w 7 1).toInt = (nw : Int)) (hnw : nw ≤ 5) (hpe : ∀ b, b < nb → arr w 10 b = nI (pN b) ∧ pN b ≤ 9) (hL : ∀ b, b < nb → L0 b ≤ H b ∧ H b ≤ 8 ∧ (L0 b < H b → ∀ i, i < nw → ok i b = false)) (hok : ∀ i, i < nw → ∀ b, b < nb → 0 < L0 b → (ok i b = true ↔ suitE (arr w 12) (arr w 13) (arr w 14) (arr w 10) (arr w 11) i b)) :
    ∀ (m j e : Nat) (ρ : Nat → Nat) (s : hSt) (row be left : Nat → Int32) (mo le : Int32), j + m = nw → e = d + 4 + m → hGd nb j L0 ok ρ left → (∀ i, i < j → row i = nI (ρ i)) → hoX nw s mo le be → hOK nw s → mC e kX1_place [.ref 30, .ref 7, .int (nI j), .int (nI (hCn nb ρ j)), .int (nI (hPr nb pN ρ j))] (xHW w row be left mo le) (fun r w' => r = none ∧ ∃ row' be' mo' le', (∀ i, i < j → row' i = nI (ρ i)) ∧ hoX nw (enum (nb + 1) (hF nb nw pN H ok) m j ρ s) mo' le' be' ∧ w' = xHW w row' be' left mo' le') := by
  have ew := nI_ofT tw (by omega)
  have eb := nI_ofT tb (by omega)
  have hp9 : ∀ b, b < nb → pN b ≤ 9 := fun b hb => (hpe b hb).2
  intro m
  induction m with
  | zero =>
    intro j e ρ s row be left mo le hj he hg hrow hx ho
    obtain rfl : j = nw := by omega
    obtain rfl : e = (d + 3) + 1 := by omega
    have hS : Shape (xHW w row be left mo le) := xHW_S hS0
    have hc5 : hCn nb ρ j ≤ 5 := Nat.le_trans hCn_le (by omega)
    have hp45 : hPr nb pN ρ j ≤ 45 := Nat.le_trans (hPr_le hp9) (by omega)
    refine mC.of (L := [_, _, _, _, _, _, _]) okX1_place 2 rfl rfl ?_
    refine x_iload_n (pc := 0) (i := 3) dX1_place_0 rfl rfl ?_
    refine x_aload_n (pc := 1) (i := 1) dX1_place_1 rfl rfl ?_
    refine x_getI (pc := 2) hS fX1_41 dX1_place_2 rfl rfl ?_
    rw [xHW_f (by decide), ew]
    refine x_iadd (pc := 5) dX1_place_5 ?_
    refine x_iload_n (pc := 6) (i := 2) dX1_place_6 rfl rfl ?_
    refine x_isub (pc := 7) dX1_place_7 ?_
    rw [nI_add, nI_subN (by omega) (by omega), show hCn nb ρ j + j - j = hCn nb ρ j by omega]
    refine x_istore (pc := 8) (L' := [_, _, _, _, _, _, _]) dX1_place_8 (by decide) rfl ?_
    refine x_iload (pc := 10) dX1_place_10 rfl ?_
    refine x_aload_n (pc := 12) (i := 0) dX1_place_12 rfl rfl ?_
    refine x_getI (pc := 13) hS fX1_31 dX1_place_13 rfl rfl ?_
    rw [xHW_3 hS0]
    refine x_icmp_lt (pc := 16) (tgt := 37) dX1_place_16 (by decide) (fun h16 => ?_) (fun h16 => ?_)
    · refine x_rv (pc := 37) dX1_place_37 rfl ?_
      refine ⟨rfl, row, be, mo, le, hrow, ?_, rfl⟩
      rw [hCut_id (by omega) (by first | exact hoX_c1 hx ho hnw (by omega) h16 | exact hoX_c2 hx ho hnw (by omega) (by omega) h25 h34)]
      exact hx
    · refine x_iload (pc := 19) dX1_place_19 rfl ?_
      refine x_aload_n (pc := 21) (i := 0) dX1_place_21 rfl rfl ?_
      refine x_getI (pc := 22) hS fX1_31 dX1_place_22 rfl rfl ?_
      rw [xHW_3 hS0]
      refine x_icmp_ne (pc := 25) (tgt := 38) dX1_place_25 (by decide) (fun h25 => ?_) (fun h25 => ?_)
      · refine x_aload_n (pc := 38) (i := 1) dX1_place_38 rfl rfl ?_
        refine x_iload_n (pc := 39) (i := 2) dX1_place_39 rfl rfl ?_
        refine x_vs (pc := 40) (As := [_]) rfl hS lX1_44 dX1_place_40 rfl rfl (Nat.le_of_ble_eq_true rfl) (c_X0_hasWalker_7 hS) ?_
        rintro _ _ ⟨rfl, hq⟩
        obtain rfl := hq.symm
        refine x_pushI ?_
        refine x_if_ne (pc := 43) (tgt := 58) dX1_place_43 (by decide) (fun h43 => absurd h43 (by rw [b2_e0.mpr]; exact not_not_intro rfl; rw [xHW_f (by decide), ew]; exact fun z => absurd z.2 (Int32.not_lt.mpr (Int32.le_refl _)))) (fun h43 => ?_)
        refine x_aload_n (pc := 46) (i := 0) dX1_place_46 rfl rfl ?_
        refine x_aload_n (pc := 47) (i := 1) dX1_place_47 rfl rfl ?_
        refine x_getI (pc := 48) hS fX1_41 dX1_place_48 rfl rfl ?_
        rw [xHW_f (by decide), ew]
        refine x_iload_n (pc := 51) (i := 3) dX1_place_51 rfl rfl ?_
        refine x_iload (pc := 52) dX1_place_52 rfl ?_
        refine x_vs (pc := 54) (As := [_, _, _]) rfl hS lX1_48 dX1_place_54 rfl rfl (Nat.le_of_ble_eq_true rfl) (c_X1_keep hS0 (by omega)) ?_
        rintro _ _ ⟨rfl, hq⟩
        obtain rfl := hq.symm
        refine x_pushV ?_
        refine x_rv (pc := 57) dX1_place_57 rfl ?_
        refine ⟨rfl, row, _, _, _, hrow, ?_, rfl⟩
        show hoX j (hF nb j pN H ok ρ s) _ _ _
        rw [hF_3 (by first | exact hoX_D hx ho hnw hc5 (by omega) h25 h34 | exact hoX_E hx ho hnw hc5 h16 h25) (hg.leaf (fun b hb => (hL b hb).1))]
        exact ⟨rfl, rfl, fun i hi => by unfold tkI hTr; rw [if_pos hi, if_pos hi]; exact hrow i hi⟩
      · refine x_iload (pc := 28) dX1_place_28 rfl ?_
        refine x_aload_n (pc := 30) (i := 0) dX1_place_30 rfl rfl ?_
        refine x_getI (pc := 31) hS fX1_34 dX1_place_31 rfl rfl ?_
        rw [xHW_4 hS0]
        refine x_icmp_lt (pc := 34) (tgt := 38) dX1_place_34 (by decide) (fun h34 => ?_) (fun h34 => ?_)
        · refine x_aload_n (pc := 38) (i := 1) dX1_place_38 rfl rfl ?_
          refine x_iload_n (pc := 39) (i := 2) dX1_place_39 rfl rfl ?_
          refine x_vs (pc := 40) (As := [_]) rfl hS lX1_44 dX1_place_40 rfl rfl (Nat.le_of_ble_eq_true rfl) (c_X0_hasWalker_7 hS) ?_
          rintro _ _ ⟨rfl, hq⟩
          obtain rfl := hq.symm
          refine x_pushI ?_
          refine x_if_ne (pc := 43) (tgt := 58) dX1_place_43 (by decide) (fun h43 => absurd h43 (by rw [b2_e0.mpr]; exact not_not_intro rfl; rw [xHW_f (by decide), ew]; exact fun z => absurd z.2 (Int32.not_lt.mpr (Int32.le_refl _)))) (fun h43 => ?_)
          refine x_aload_n (pc := 46) (i := 0) dX1_place_46 rfl rfl ?_
          refine x_aload_n (pc := 47) (i := 1) dX1_place_47 rfl rfl ?_
          refine x_getI (pc := 48) hS fX1_41 dX1_place_48 rfl rfl ?_
          rw [xHW_f (by decide), ew]
          refine x_iload_n (pc := 51) (i := 3) dX1_place_51 rfl rfl ?_
          refine x_iload (pc := 52) dX1_place_52 rfl ?_
          refine x_vs (pc := 54) (As := [_, _, _]) rfl hS lX1_48 dX1_place_54 rfl rfl (Nat.le_of_ble_eq_true rfl) (c_X1_keep hS0 (by omega)) ?_
          rintro _ _ ⟨rfl, hq⟩
          obtain rfl := hq.symm
          refine x_pushV ?_
          refine x_rv (pc := 57) dX1_place_57 rfl ?_
          refine ⟨rfl, row, _, _, _, hrow, ?_, rfl⟩
          show hoX j (hF nb j pN H ok ρ s) _ _ _
          rw [hF_3 (by first | exact hoX_D hx ho hnw hc5 (by omega) h25 h34 | exact hoX_E hx ho hnw hc5 h16 h25) (hg.leaf (fun b hb => (hL b hb).1))]
          exact ⟨rfl, rfl, fun i hi => by unfold tkI hTr; rw [if_pos hi, if_pos hi]; exact hrow i hi⟩
        · refine x_rv (pc := 37) dX1_place_37 rfl ?_
          refine ⟨rfl, row, be, mo, le, hrow, ?_, rfl⟩
          rw [hCut_id (by omega) (by first | exact hoX_c1 hx ho hnw (by omega) h16 | exact hoX_c2 hx ho hnw (by omega) (by omega) h25 h34)]
          exact hx
  | succ m ih =>
    intro j e ρ s row be left mo le hj he hg hrow hx ho
    obtain rfl : e = (d + 2 + m) + 2 + 1 := by omega
    have tj : (nI j).toInt = (j : Int) := nI_toInt (by omega)
    have hc5 : hCn nb ρ j + (m + 1) ≤ 5 := by have := hCn_le (nb := nb) (ρ := ρ) (m := j); omega
    have hp45 : hPr nb pN ρ j ≤ 45 := Nat.le_trans (hPr_le hp9) (by omega)
    have lp : ∀ (q b : Nat) (row be : Nat → Int32) (mo le : Int32), b + q = nb → (∀ i, i < j → row i = nI (ρ i)) → hoX nw (foldN (fun c s => enum (nb + 1) (hF nb nw pN H ok) m (j + 1) (ud ρ j c) s) b s) mo le be → mJ mX0 (d + 2 + m + 2 + 1) kX1_place (fun r w' => r = none ∧ ∃ row' be' mo' le', (∀ i, i < j → row' i = nI (ρ i)) ∧ hoX nw (enum (nb + 1) (hF nb nw pN H ok) (m + 1) j ρ s) mo' le' be' ∧ w' = xHW w row' be' left mo' le') 61 [.ref 30, .ref 7, .int (nI j), .int (nI (hCn nb ρ j)), .int (nI (hPr nb pN ρ j)), .null, .int (nI b)] [] (xHW w row be left mo le) := by
      intro q
      induction q with
      | zero =>
        intro b row be mo le hb hrow hx
        obtain rfl : b = nb := by omega
        have tbb : (nI b).toInt = (b : Int) := nI_toInt (by omega)
        have hS : Shape (xHW w row be left mo le) := xHW_S hS0
        have ho2 : hOK nw (foldN (fun c s => enum (b + 1) (hF b nw pN H ok) m (j + 1) (ud ρ j c) s) b s) := foldN_pres ho (fun c _ s hs => enum_pres (fun ρ s hs => hF_ok hp9 hs) hs)
        refine x_iload (pc := 61) dX1_place_61 rfl ?_
        refine x_aload_n (pc := 63) (i := 1) dX1_place_63 rfl rfl ?_
        refine x_getI (pc := 64) hS fX1_21 dX1_place_64 rfl rfl ?_
        rw [xHW_f (by decide), eb]
        refine x_icmp_ge (pc := 67) (tgt := 147) dX1_place_67 (by decide) (fun h67 => ?_) (fun h67 => absurd h67 (by exact not_not_intro (Int32.le_refl _)))
        refine x_aload_n (pc := 147) (i := 0) dX1_place_147 rfl rfl ?_
        refine x_getR (pc := 148) hS fX1_9 dX1_place_148 rfl rfl ?_
        refine x_iload_n (pc := 151) (i := 2) dX1_place_151 rfl rfl ?_
        refine x_aload_n (pc := 152) (i := 1) dX1_place_152 rfl rfl ?_
        refine x_getI (pc := 153) hS fX1_21 dX1_place_153 rfl rfl ?_
        rw [xHW_f (by decide), eb]
        refine x_astN (pc := 156) hS dX1_place_156 rfl (by omega) (by decide) (fun hS => ?_)
        rw [xHW_31 hS0, xHW_s31]
        refine x_aload_n (pc := 157) (i := 0) dX1_place_157 rfl rfl ?_
        refine x_aload_n (pc := 158) (i := 1) dX1_place_158 rfl rfl ?_
        refine x_iload_n (pc := 159) (i := 2) dX1_place_159 rfl rfl ?_
        refine x_iconst (pc := 160) (v := 1) dX1_place_160 (by decide) ?_
        refine x_iadd (pc := 161) dX1_place_161 ?_
        refine x_iload_n (pc := 162) (i := 3) dX1_place_162 rfl rfl ?_
        refine x_iload (pc := 163) dX1_place_163 rfl ?_
        rw [nI_1]
        have hS : Shape (xHW w (upd row j (nI b)) be left mo le) := xHW_S hS0
        have h9 := ih (j + 1) (d + 2 + m + 2) (ud ρ j b) _ (upd row j (nI b)) be left mo le (by omega) (by omega) hg.none (row_ud hrow) hx ho2
        rw [hCn_ud, hPr_ud, if_neg (Nat.lt_irrefl b), if_neg (Nat.lt_irrefl b), Nat.add_zero, Nat.add_zero] at h9
        refine x_vs (pc := 165) (As := [_, _, _, _]) rfl hS lX1_37 dX1_place_165 rfl rfl (Nat.le_of_ble_eq_true rfl) h9 ?_
        rintro _ _ ⟨rfl, row', be', mo', le', q1, q2, hq⟩
        obtain rfl := hq.symm
        refine x_pushV ?_
        refine x_rv (pc := 168) dX1_place_168 rfl ?_
        exact ⟨rfl, row', be', mo', le', fun i hi => by rw [q1 i (by omega), ud_ne (by omega)], q2, rfl⟩
      | succ q ih2 =>
        intro b row be mo le hb hrow hx
        have hbn : b < nb := by omega
        have tbb : (nI b).toInt = (b : Int) := nI_toInt (by omega)
        have hS : Shape (xHW w row be left mo le) := xHW_S hS0
        have tb' : (fld (xHW w row be left mo le) 7 0).toInt = (nb : Int) := by rw [xHW_f (by decide)]; exact tb
        have tw' : (fld (xHW w row be left mo le) 7 1).toInt = (nw : Int) := by rw [xHW_f (by decide)]; exact tw
        have ho2 : hOK nw (foldN (fun c s => enum (nb + 1) (hF nb nw pN H ok) m (j + 1) (ud ρ j c) s) b s) := foldN_pres ho (fun c _ s hs => enum_pres (fun ρ s hs => hF_ok hp9 hs) hs)
        obtain ⟨l, hl1, hl2⟩ := hg.2 b hbn
        have hL8 := hL b hbn
        have tl : (nI l).toInt = (l : Int) := nI_toInt (by omega)
        have cj : (nI j).toNatClampNeg = j := nI_clamp (by omega)
        have cb : (nI b).toNatClampNeg = b := nI_clamp (by omega)
        refine x_iload (pc := 61) dX1_place_61 rfl ?_
        refine x_aload_n (pc := 63) (i := 1) dX1_place_63 rfl rfl ?_
        refine x_getI (pc := 64) hS fX1_21 dX1_place_64 rfl rfl ?_
        rw [xHW_f (by decide), eb]
        refine x_icmp_ge (pc := 67) (tgt := 147) dX1_place_67 (by decide) (fun h67 => absurd h67 (by rw [i_le, nI_toInt (by omega), nI_toInt (by omega)]; omega)) (fun h67 => ?_)
        refine x_aload_n (pc := 70) (i := 0) dX1_place_70 rfl rfl ?_
        refine x_getR (pc := 71) hS fX1_18 dX1_place_71 rfl rfl ?_
        refine x_iload (pc := 74) dX1_place_74 rfl ?_
        refine x_aldN (pc := 76) hS dX1_place_76 rfl (by omega) (by decide) ?_
        rw [xHW_33 hS0, hl1]
        refine x_if_le (pc := 77) (tgt := 141) dX1_place_77 (by decide) (fun h77 => ?_) (fun h77 => ?_)
        · first | (rw [xHW_33 hS0, xHW_s33, upd_upd, ← hl1, upd_self]) | skip
          refine x_iinc (pc := 141) (L' := [_, _, _, _, _, _, _]) dX1_place_141 (by decide) rfl (by first | exact nI_inc _ | rfl) rfl ?_
          refine x_goto (pc := 144) (tgt := 61) dX1_place_144 (by decide) ?_
          first | exact ih2 (b + 1) _ _ _ _ (by omega) (fun i hi => by rw [q1 i (by omega), ud_ne (by omega)]) q2 | (refine ih2 (b + 1) _ _ _ _ (by omega) hrow ?_; show hoX nw (enum (nb + 1) (hF nb nw pN H ok) m (j + 1) (ud ρ j b) _) _ _ _; rw [hBad_id (n := nw) (by omega) hbn (hBad hL8 (by omega) hl2 (by first | exact Or.inl (show l = 0 by (try simp only [b2_e0, b2_n0, Decidable.not_not] at *) <;> (try simp only [i_lt, i_le, i_eq, not_and, not_or, ne_eq, il_0, il_1, il_2, il_3, il_4, il_5, il_6, il_7, il_8, il_9, il_10, il_14, il_15, il_19, il_20, il_24, il_30, il_31, il_44, il_48, il_49, il_52, il_57, il_59, il_60, il_70, il_99, il_100, il_103, il_108, il_114, il_m1, il_m2, il_m3, il_m4, il_m9, il_m10, il_m100] at *) <;> omega) | exact Or.inr (fun z => b2_e0.mp h87 ⟨⟨by (try simp only [b2_e0, b2_n0, Decidable.not_not] at *) <;> (try simp only [i_lt, i_le, i_eq, not_and, not_or, ne_eq, il_0, il_1, il_2, il_3, il_4, il_5, il_6, il_7, il_8, il_9, il_10, il_14, il_15, il_19, il_20, il_24, il_30, il_31, il_44, il_48, il_49, il_52, il_57, il_59, il_60, il_70, il_99, il_100, il_103, il_108, il_114, il_m1, il_m2, il_m3, il_m4, il_m9, il_m10, il_m100] at *) <;> omega, by rw [ew, i_lt, tj, nI_toInt (by omega)]; omega⟩, ⟨by (try simp only [b2_e0, b2_n0, Decidable.not_not] at *) <;> (try simp only [i_lt, i_le, i_eq, not_and, not_or, ne_eq, il_0, il_1, il_2, il_3, il_4, il_5, il_6, il_7, il_8, il_9, il_10, il_14, il_15, il_19, il_20, il_24, il_30, il_31, il_44, il_48, il_49, il_52, il_57, il_59, il_60, il_70, il_99, il_100, il_103, il_108, il_114, il_m1, il_m2, il_m3, il_m4, il_m9, il_m10, il_m100] at *) <;> omega, by rw [eb, i_lt, tbb, nI_toInt (by omega)]; omega⟩, (hok j (by omega) b hbn (by omega)).mp z⟩)))]; exact hx)
        · obtain ⟨l', rfl⟩ : ∃ l', l = l' + 1 := ⟨l - 1, by (try simp only [b2_e0, b2_n0, Decidable.not_not] at *) <;> (try simp only [i_lt, i_le, i_eq, not_and, not_or, ne_eq, il_0, il_1, il_2, il_3, il_4, il_5, il_6, il_7, il_8, il_9, il_10, il_14, il_15, il_19, il_20, il_24, il_30, il_31, il_44, il_48, il_49, il_52, il_57, il_59, il_60, il_70, il_99, il_100, il_103, il_108, il_114, il_m1, il_m2, il_m3, il_m4, il_m9, il_m10, il_m100] at *) <;> omega⟩
          refine x_aload_n (pc := 80) (i := 1) dX1_place_80 rfl rfl ?_
          refine x_iload_n (pc := 81) (i := 2) dX1_place_81 rfl rfl ?_
          refine x_iload (pc := 82) dX1_place_82 rfl ?_
          refine x_vs (pc := 84) (As := [_, _]) rfl hS lX1_52 dX1_place_84 rfl rfl (Nat.le_of_ble_eq_true rfl) (c_X0_suits_7 hS tb' hnb tw' hnw) ?_
          rintro _ _ ⟨rfl, hq⟩
          obtain rfl := hq.symm
          refine x_pushI ?_
          rw [cj, cb, xHW_f (by decide), xHW_f (by decide), xHW_a (by decide) (by decide) (by decide), xHW_a (by decide) (by decide) (by decide), xHW_a (by decide) (by decide) (by decide), xHW_a (by decide) (by decide) (by decide), xHW_a (by decide) (by decide) (by decide)]
          refine x_if_eq (pc := 87) (tgt := 141) dX1_place_87 (by decide) (fun h87 => ?_) (fun h87 => ?_)
          · first | (rw [xHW_33 hS0, xHW_s33, upd_upd, ← hl1, upd_self]) | skip
            refine x_iinc (pc := 141) (L' := [_, _, _, _, _, _, _]) dX1_place_141 (by decide) rfl (by first | exact nI_inc _ | rfl) rfl ?_
            refine x_goto (pc := 144) (tgt := 61) dX1_place_144 (by decide) ?_
            first | exact ih2 (b + 1) _ _ _ _ (by omega) (fun i hi => by rw [q1 i (by omega), ud_ne (by omega)]) q2 | (refine ih2 (b + 1) _ _ _ _ (by omega) hrow ?_; show hoX nw (enum (nb + 1) (hF nb nw pN H ok) m (j + 1) (ud ρ j b) _) _ _ _; rw [hBad_id (n := nw) (by omega) hbn (hBad hL8 (by omega) hl2 (by first | exact Or.inl (show l = 0 by (try simp only [b2_e0, b2_n0, Decidable.not_not] at *) <;> (try simp only [i_lt, i_le, i_eq, not_and, not_or, ne_eq, il_0, il_1, il_2, il_3, il_4, il_5, il_6, il_7, il_8, il_9, il_10, il_14, il_15, il_19, il_20, il_24, il_30, il_31, il_44, il_48, il_49, il_52, il_57, il_59, il_60, il_70, il_99, il_100, il_103, il_108, il_114, il_m1, il_m2, il_m3, il_m4, il_m9, il_m10, il_m100] at *) <;> omega) | exact Or.inr (fun z => b2_e0.mp h87 ⟨⟨by (try simp only [b2_e0, b2_n0, Decidable.not_not] at *) <;> (try simp only [i_lt, i_le, i_eq, not_and, not_or, ne_eq, il_0, il_1, il_2, il_3, il_4, il_5, il_6, il_7, il_8, il_9, il_10, il_14, il_15, il_19, il_20, il_24, il_30, il_31, il_44, il_48, il_49, il_52, il_57, il_59, il_60, il_70, il_99, il_100, il_103, il_108, il_114, il_m1, il_m2, il_m3, il_m4, il_m9, il_m10, il_m100] at *) <;> omega, by rw [ew, i_lt, tj, nI_toInt (by omega)]; omega⟩, ⟨by (try simp only [b2_e0, b2_n0, Decidable.not_not] at *) <;> (try simp only [i_lt, i_le, i_eq, not_and, not_or, ne_eq, il_0, il_1, il_2, il_3, il_4, il_5, il_6, il_7, il_8, il_9, il_10, il_14, il_15, il_19, il_20, il_24, il_30, il_31, il_44, il_48, il_49, il_52, il_57, il_59, il_60, il_70, il_99, il_100, il_103, il_108, il_114, il_m1, il_m2, il_m3, il_m4, il_m9, il_m10, il_m100] at *) <;> omega, by rw [eb, i_lt, tbb, nI_toInt (by omega)]; omega⟩, (hok j (by omega) b hbn (by omega)).mp z⟩)))]; exact hx)
          · have hok1 : ok j b = true := (hok j (by omega) b hbn (by omega)).mpr (b2_n0.mp h87).2.2
            refine x_aload_n (pc := 90) (i := 0) dX1_place_90 rfl rfl ?_
            refine x_getR (pc := 91) hS fX1_18 dX1_place_91 rfl rfl ?_
            refine x_iload (pc := 94) dX1_place_94 rfl ?_
            refine x_dup2 (pc := 96) dX1_place_96 rfl rfl ?_
            refine x_aldN (pc := 97) hS dX1_place_97 rfl (by omega) (by decide) ?_
            rw [xHW_33 hS0, hl1]
            refine x_iconst (pc := 98) (v := 1) dX1_place_98 (by decide) ?_
            refine x_isub (pc := 99) dX1_place_99 ?_
            rw [nI_pred]
            refine x_astN (pc := 100) hS dX1_place_100 rfl (by omega) (by decide) (fun hS => ?_)
            rw [xHW_33 hS0, xHW_s33]
            have hS : Shape (xHW w row be (upd left b (nI l')) mo le) := xHW_S hS0
            refine x_aload_n (pc := 101) (i := 0) dX1_place_101 rfl rfl ?_
            refine x_getR (pc := 102) hS fX1_9 dX1_place_102 rfl rfl ?_
            refine x_iload_n (pc := 105) (i := 2) dX1_place_105 rfl rfl ?_
            refine x_iload (pc := 106) dX1_place_106 rfl ?_
            refine x_astN (pc := 108) hS dX1_place_108 rfl (by omega) (by decide) (fun hS => ?_)
            rw [xHW_31 hS0, xHW_s31]
            have hS : Shape (xHW w (upd row j (nI b)) be (upd left b (nI l')) mo le) := xHW_S hS0
            refine x_aload_n (pc := 109) (i := 0) dX1_place_109 rfl rfl ?_
            refine x_aload_n (pc := 110) (i := 1) dX1_place_110 rfl rfl ?_
            refine x_iload_n (pc := 111) (i := 2) dX1_place_111 rfl rfl ?_
            refine x_iconst (pc := 112) (v := 1) dX1_place_112 (by decide) ?_
            refine x_iadd (pc := 113) dX1_place_113 ?_
            rw [nI_1]
            refine x_iload_n (pc := 114) (i := 3) dX1_place_114 rfl rfl ?_
            refine x_iconst (pc := 115) (v := 1) dX1_place_115 (by decide) ?_
            refine x_iadd (pc := 116) dX1_place_116 ?_
            rw [nI_1]
            refine x_iload (pc := 117) dX1_place_117 rfl ?_
            refine x_aload_n (pc := 119) (i := 1) dX1_place_119 rfl rfl ?_
            refine x_getR (pc := 120) hS fX1_56 dX1_place_120 rfl rfl ?_
            refine x_iload (pc := 123) dX1_place_123 rfl ?_
            refine x_aldN (pc := 125) hS dX1_place_125 rfl (by omega) (by decide) ?_
            rw [xHW_a (by decide) (by decide) (by decide), (hpe b hbn).1]
            refine x_iadd (pc := 126) dX1_place_126 ?_
            rw [nI_add]
            have h9 := ih (j + 1) (d + 2 + m + 2) (ud ρ j b) _ (upd row j (nI b)) be (upd left b (nI l')) mo le (by omega) (by omega) (hg.some hbn hl1 (by omega) (fun b hb => by have := hL b hb; omega) hok1) (row_ud hrow) hx ho2
            rw [hCn_ud, hPr_ud, if_pos hbn, if_pos hbn] at h9
            refine x_vs (pc := 127) (As := [_, _, _, _]) rfl hS lX1_37 dX1_place_127 rfl rfl (Nat.le_of_ble_eq_true rfl) h9 ?_
            rintro _ _ ⟨rfl, row', be', mo', le', q1, q2, hq⟩
            obtain rfl := hq.symm
            have hS : Shape (xHW w row' be' (upd left b (nI l')) mo' le') := xHW_S hS0
            refine x_pushV ?_
            refine x_aload_n (pc := 130) (i := 0) dX1_place_130 rfl rfl ?_
            refine x_getR (pc := 131) hS fX1_18 dX1_place_131 rfl rfl ?_
            refine x_iload (pc := 134) dX1_place_134 rfl ?_
            refine x_dup2 (pc := 136) dX1_place_136 rfl rfl ?_
            refine x_aldN (pc := 137) hS dX1_place_137 rfl (by omega) (by decide) ?_
            rw [xHW_33 hS0, show upd left b (nI l') b = nI l' from if_pos rfl]
            refine x_iconst (pc := 138) (v := 1) dX1_place_138 (by decide) ?_
            refine x_iadd (pc := 139) dX1_place_139 ?_
            rw [nI_1]
            refine x_astN (pc := 140) hS dX1_place_140 rfl (by omega) (by decide) (fun hS => ?_)
            first | (rw [xHW_33 hS0, xHW_s33, upd_upd, ← hl1, upd_self]) | skip
            refine x_iinc (pc := 141) (L' := [_, _, _, _, _, _, _]) dX1_place_141 (by decide) rfl (by first | exact nI_inc _ | rfl) rfl ?_
            refine x_goto (pc := 144) (tgt := 61) dX1_place_144 (by decide) ?_
            first | exact ih2 (b + 1) _ _ _ _ (by omega) (fun i hi => by rw [q1 i (by omega), ud_ne (by omega)]) q2 | (refine ih2 (b + 1) _ _ _ _ (by omega) hrow ?_; show hoX nw (enum (nb + 1) (hF nb nw pN H ok) m (j + 1) (ud ρ j b) _) _ _ _; rw [hBad_id (n := nw) (by omega) hbn (hBad hL8 (by omega) hl2 (by first | exact Or.inl (show l = 0 by (try simp only [b2_e0, b2_n0, Decidable.not_not] at *) <;> (try simp only [i_lt, i_le, i_eq, not_and, not_or, ne_eq, il_0, il_1, il_2, il_3, il_4, il_5, il_6, il_7, il_8, il_9, il_10, il_14, il_15, il_19, il_20, il_24, il_30, il_31, il_44, il_48, il_49, il_52, il_57, il_59, il_60, il_70, il_99, il_100, il_103, il_108, il_114, il_m1, il_m2, il_m3, il_m4, il_m9, il_m10, il_m100] at *) <;> omega) | exact Or.inr (fun z => b2_e0.mp h87 ⟨⟨by (try simp only [b2_e0, b2_n0, Decidable.not_not] at *) <;> (try simp only [i_lt, i_le, i_eq, not_and, not_or, ne_eq, il_0, il_1, il_2, il_3, il_4, il_5, il_6, il_7, il_8, il_9, il_10, il_14, il_15, il_19, il_20, il_24, il_30, il_31, il_44, il_48, il_49, il_52, il_57, il_59, il_60, il_70, il_99, il_100, il_103, il_108, il_114, il_m1, il_m2, il_m3, il_m4, il_m9, il_m10, il_m100] at *) <;> omega, by rw [ew, i_lt, tj, nI_toInt (by omega)]; omega⟩, ⟨by (try simp only [b2_e0, b2_n0, Decidable.not_not] at *) <;> (try simp only [i_lt, i_le, i_eq, not_and, not_or, ne_eq, il_0, il_1, il_2, il_3, il_4, il_5, il_6, il_7, il_8, il_9, il_10, il_14, il_15, il_19, il_20, il_24, il_30, il_31, il_44, il_48, il_49, il_52, il_57, il_59, il_60, il_70, il_99, il_100, il_103, il_108, il_114, il_m1, il_m2, il_m3, il_m4, il_m9, il_m10, il_m100] at *) <;> omega, by rw [eb, i_lt, tbb, nI_toInt (by omega)]; omega⟩, (hok j (by omega) b hbn (by omega)).mp z⟩)))]; exact hx)
    have hS : Shape (xHW w row be left mo le) := xHW_S hS0
    refine mC.of (L := [_, _, _, _, _, _, _]) okX1_place 2 rfl rfl ?_
    refine x_iload_n (pc := 0) (i := 3) dX1_place_0 rfl rfl ?_
    refine x_aload_n (pc := 1) (i := 1) dX1_place_1 rfl rfl ?_
    refine x_getI (pc := 2) hS fX1_41 dX1_place_2 rfl rfl ?_
    rw [xHW_f (by decide), ew]
    refine x_iadd (pc := 5) dX1_place_5 ?_
    refine x_iload_n (pc := 6) (i := 2) dX1_place_6 rfl rfl ?_
    refine x_isub (pc := 7) dX1_place_7 ?_
    rw [nI_add, nI_subN (by omega) (by omega), show hCn nb ρ j + nw - j = hCn nb ρ j + (m + 1) by omega]
    refine x_istore (pc := 8) (L' := [_, _, _, _, _, _, _]) dX1_place_8 (by decide) rfl ?_
    refine x_iload (pc := 10) dX1_place_10 rfl ?_
    refine x_aload_n (pc := 12) (i := 0) dX1_place_12 rfl rfl ?_
    refine x_getI (pc := 13) hS fX1_31 dX1_place_13 rfl rfl ?_
    rw [xHW_3 hS0]
    refine x_icmp_lt (pc := 16) (tgt := 37) dX1_place_16 (by decide) (fun h16 => ?_) (fun h16 => ?_)
    · refine x_rv (pc := 37) dX1_place_37 rfl ?_
      refine ⟨rfl, row, be, mo, le, hrow, ?_, rfl⟩
      rw [hCut_id hj (by first | exact hoX_c1 hx ho hnw (by omega) h16 | exact hoX_c2 hx ho hnw (by omega) (by omega) h25 h34)]
      exact hx
    · refine x_iload (pc := 19) dX1_place_19 rfl ?_
      refine x_aload_n (pc := 21) (i := 0) dX1_place_21 rfl rfl ?_
      refine x_getI (pc := 22) hS fX1_31 dX1_place_22 rfl rfl ?_
      rw [xHW_3 hS0]
      refine x_icmp_ne (pc := 25) (tgt := 38) dX1_place_25 (by decide) (fun h25 => ?_) (fun h25 => ?_)
      · refine x_aload_n (pc := 38) (i := 1) dX1_place_38 rfl rfl ?_
        refine x_iload_n (pc := 39) (i := 2) dX1_place_39 rfl rfl ?_
        refine x_vs (pc := 40) (As := [_]) rfl hS lX1_44 dX1_place_40 rfl rfl (Nat.le_of_ble_eq_true rfl) (c_X0_hasWalker_7 hS) ?_
        rintro _ _ ⟨rfl, hq⟩
        obtain rfl := hq.symm
        refine x_pushI ?_
        refine x_if_ne (pc := 43) (tgt := 58) dX1_place_43 (by decide) (fun h43 => ?_) (fun h43 => absurd h43 (by rw [b2_n0, xHW_f (by decide), ew]; exact ⟨by (try simp only [b2_e0, b2_n0, Decidable.not_not] at *) <;> (try simp only [i_lt, i_le, i_eq, not_and, not_or, ne_eq, il_0, il_1, il_2, il_3, il_4, il_5, il_6, il_7, il_8, il_9, il_10, il_14, il_15, il_19, il_20, il_24, il_30, il_31, il_44, il_48, il_49, il_52, il_57, il_59, il_60, il_70, il_99, il_100, il_103, il_108, il_114, il_m1, il_m2, il_m3, il_m4, il_m9, il_m10, il_m100] at *) <;> omega, by rw [i_lt, tj, nI_toInt (by omega)]; omega⟩))
        refine x_iconst (pc := 58) (v := 0) dX1_place_58 (by decide) ?_
        refine x_istore (pc := 59) (L' := [_, _, _, _, _, _, _]) dX1_place_59 (by decide) rfl ?_
        exact mJ.weak (wk_v (wk_v (wk_v (wk_v (wk_v (wk_n (wk_v wk_0))))))) (lp nb 0 row be mo le (by omega) hrow hx)
      · refine x_iload (pc := 28) dX1_place_28 rfl ?_
        refine x_aload_n (pc := 30) (i := 0) dX1_place_30 rfl rfl ?_
        refine x_getI (pc := 31) hS fX1_34 dX1_place_31 rfl rfl ?_
        rw [xHW_4 hS0]
        refine x_icmp_lt (pc := 34) (tgt := 38) dX1_place_34 (by decide) (fun h34 => ?_) (fun h34 => ?_)
        · refine x_aload_n (pc := 38) (i := 1) dX1_place_38 rfl rfl ?_
          refine x_iload_n (pc := 39) (i := 2) dX1_place_39 rfl rfl ?_
          refine x_vs (pc := 40) (As := [_]) rfl hS lX1_44 dX1_place_40 rfl rfl (Nat.le_of_ble_eq_true rfl) (c_X0_hasWalker_7 hS) ?_
          rintro _ _ ⟨rfl, hq⟩
          obtain rfl := hq.symm
          refine x_pushI ?_
          refine x_if_ne (pc := 43) (tgt := 58) dX1_place_43 (by decide) (fun h43 => ?_) (fun h43 => absurd h43 (by rw [b2_n0, xHW_f (by decide), ew]; exact ⟨by (try simp only [b2_e0, b2_n0, Decidable.not_not] at *) <;> (try simp only [i_lt, i_le, i_eq, not_and, not_or, ne_eq, il_0, il_1, il_2, il_3, il_4, il_5, il_6, il_7, il_8, il_9, il_10, il_14, il_15, il_19, il_20, il_24, il_30, il_31, il_44, il_48, il_49, il_52, il_57, il_59, il_60, il_70, il_99, il_100, il_103, il_108, il_114, il_m1, il_m2, il_m3, il_m4, il_m9, il_m10, il_m100] at *) <;> omega, by rw [i_lt, tj, nI_toInt (by omega)]; omega⟩))
          refine x_iconst (pc := 58) (v := 0) dX1_place_58 (by decide) ?_
          refine x_istore (pc := 59) (L' := [_, _, _, _, _, _, _]) dX1_place_59 (by decide) rfl ?_
          exact mJ.weak (wk_v (wk_v (wk_v (wk_v (wk_v (wk_n (wk_v wk_0))))))) (lp nb 0 row be mo le (by omega) hrow hx)
        · refine x_rv (pc := 37) dX1_place_37 rfl ?_
          refine ⟨rfl, row, be, mo, le, hrow, ?_, rfl⟩
          rw [hCut_id hj (by first | exact hoX_c1 hx ho hnw (by omega) h16 | exact hoX_c2 hx ho hnw (by omega) (by omega) h25 h34)]
          exact hx
def lfI (ki be : Nat → Int32) (wo : Int32) (old : Nat → Int32) (k : Nat) : Nat → Int32 := fun b => if b < k then (if nI b = wo then 0 else holdsE (ki b) (be b)) else old b
theorem lfI_0 {ki be : Nat → Int32} {wo : Int32} {old : Nat → Int32} : lfI ki be wo old 0 = old := by funext b; unfold lfI; rw [if_neg (by omega)]
theorem lfI_s {ki be : Nat → Int32} {wo : Int32} {old : Nat → Int32} {k : Nat} {x : Int32} (h : (if nI k = wo then (0 : Int32) else holdsE (ki k) (be k)) = x) : upd (lfI ki be wo old k) k x = lfI ki be wo old (k + 1) := by
  funext b
  unfold upd lfI
  by_cases e : b = k
  · subst e; rw [if_pos rfl, if_pos (by omega), h]
  · rw [if_neg e]
    by_cases e2 : b < k
    · rw [if_pos e2, if_pos (show b < k + 1 by omega)]
    · rw [if_neg e2, if_neg (show ¬ b < k + 1 by omega)]
theorem c_X1_search {d : Nat} {w : mW} {wo : Int32} {nb nw : Nat} {pN H : Nat → Nat} {ok : Nat → Nat → Bool} (hS0 : Shape w) (tb : (fld w 7 0).toInt = (nb : Int)) (hnb : nb ≤ 5) (tw : (fld w 7 1).toInt = (nw : Int)) (hnw : nw ≤ 5) (hpe : ∀ b, b < nb → arr w 10 b = nI (pN b) ∧ pN b ≤ 9) (hH : ∀ b, b < nb → holdsE (arr w 8 b) (arr w 9 b) = nI (H b) ∧ H b ≤ 8) (hok : ∀ i, i < nw → ∀ b, b < nb → (ok i b = true ↔ ¬ nI b = wo ∧ suitE (arr w 12) (arr w 13) (arr w 14) (arr w 10) (arr w 11) i b)) : mC (d + 10) kX1_search [.ref 30, .ref 7, .int wo] w (fun r w' => r = none ∧ ∃ row be left mo le, hoX nw (enum (nb + 1) (hF nb nw pN H ok) nw 0 (fun _ => 0) none) mo le be ∧ w' = xHW w row be left mo le) := by
  have eb := nI_ofT tb (by omega)
  have h9 := c_X1_place (d := d + 5 - nw) (w := w) (L0 := fun b => if nI b = wo then 0 else H b) (H := H) (pN := pN) (ok := ok) hS0 tb hnb tw hnw hpe (fun b hb => by
      have := (hH b hb).2
      by_cases e : nI b = wo
      · simp only [e, if_true]
        exact ⟨Nat.zero_le _, this, fun _ i hi => by
          cases hq : ok i b with
          | false => rfl
          | true => exact absurd e ((hok i hi b hb).mp hq).1⟩
      · simp only [e, if_false]
        exact ⟨Nat.le_refl _, this, fun q => absurd q (Nat.lt_irrefl _)⟩) (fun i hi b hb hl => by
      rw [hok i hi b hb]
      by_cases e : nI b = wo
      · simp only [e, if_true] at hl; exact absurd hl (Nat.lt_irrefl _)
      · exact ⟨fun q => q.2, fun q => ⟨e, q⟩⟩) nw 0 (d + 9) (fun _ => 0) none (arr w 31) (arr w 32) (lfI (arr w 8) (arr w 9) wo (arr w 33) nb) (-9) 0 (by omega) (by omega) ⟨fun i hi => absurd hi (Nat.not_lt_zero _), fun b hb => by
      refine ⟨if nI b = wo then 0 else H b, ?_, rfl⟩
      unfold lfI
      rw [if_pos hb]
      by_cases e : nI b = wo
      · rw [if_pos e, if_pos e]; rfl
      · rw [if_neg e, if_neg e, (hH b hb).1]⟩ (fun i hi => absurd hi (Nat.not_lt_zero _)) rfl trivial
  have lp : ∀ (m k : Nat), k ≤ nb → nb < k + m → mJ mX0 (d + 10) kX1_search (fun r w' => r = none ∧ ∃ row be left mo le, hoX nw (enum (nb + 1) (hF nb nw pN H ok) nw 0 (fun _ => 0) none) mo le be ∧ w' = xHW w row be left mo le) 2 [.ref 30, .ref 7, .int wo, .int (nI k)] [] (setA w 33 (lfI (arr w 8) (arr w 9) wo (arr w 33) k)) := by
    intro m
    induction m with
    | zero => intro k h1 h2; omega
    | succ m ih =>
      intro k hk1 hk2
      have tk : (nI k).toInt = (k : Int) := nI_toInt (by omega)
      have ck : (nI k).toNatClampNeg = k := nI_clamp (by omega)
      have hS : Shape (setA w 33 (lfI (arr w 8) (arr w 9) wo (arr w 33) k)) := hS0.stA _ _
      have tb' : (fld (setA w 33 (lfI (arr w 8) (arr w 9) wo (arr w 33) k)) 7 0).toInt = (nb : Int) := by rw [fld_setA]; exact tb
      refine x_iload_n (pc := 2) (i := 3) dX1_search_2 rfl rfl ?_
      refine x_aload_n (pc := 3) (i := 1) dX1_search_3 rfl rfl ?_
      refine x_getI (pc := 4) hS fX1_21 dX1_search_4 rfl rfl ?_
      rw [fld_setA]
      refine x_icmp_ge (pc := 7) (tgt := 36) dX1_search_7 (by decide) (fun h7 => ?_) (fun h7 => ?_)
      · have hkn : k = nb := by (try simp only [b2_e0, b2_n0, Decidable.not_not] at *) <;> (try simp only [i_lt, i_le, i_eq, not_and, not_or, ne_eq, il_0, il_1, il_2, il_3, il_4, il_5, il_6, il_7, il_8, il_9, il_10, il_14, il_15, il_19, il_20, il_24, il_30, il_31, il_44, il_48, il_49, il_52, il_57, il_59, il_60, il_70, il_99, il_100, il_103, il_108, il_114, il_m1, il_m2, il_m3, il_m4, il_m9, il_m10, il_m100] at *) <;> omega
        refine x_aload_n (pc := 36) (i := 0) dX1_search_36 rfl rfl ?_
        refine x_bipush (pc := 37) (v := (-9)) dX1_search_37 (by decide) ?_
        refine x_putI (pc := 39) hS fX1_31 dX1_search_39 rfl rfl rfl rfl (fun hS => ?_)
        refine x_aload_n (pc := 42) (i := 0) dX1_search_42 rfl rfl ?_
        refine x_iconst (pc := 43) (v := 0) dX1_search_43 (by decide) ?_
        refine x_putI (pc := 44) hS fX1_34 dX1_search_44 rfl rfl rfl rfl (fun hS => ?_)
        rw [hkn, show setF (setF (setA w 33 (lfI (arr w 8) (arr w 9) wo (arr w 33) nb)) 30 3 (-9)) 30 4 0 = xHW w (arr w 31) (arr w 32) (lfI (arr w 8) (arr w 9) wo (arr w 33) nb) (-9) 0 from by unfold xHW; rw [setA_self hS0 rfl, setA_self hS0 rfl]]
        have hS : Shape (xHW w (arr w 31) (arr w 32) (lfI (arr w 8) (arr w 9) wo (arr w 33) nb) (-9) 0) := xHW_S hS0
        refine x_aload_n (pc := 47) (i := 0) dX1_search_47 rfl rfl ?_
        refine x_aload_n (pc := 48) (i := 1) dX1_search_48 rfl rfl ?_
        refine x_iconst (pc := 49) (v := 0) dX1_search_49 (by decide) ?_
        refine x_iconst (pc := 50) (v := 0) dX1_search_50 (by decide) ?_
        refine x_iconst (pc := 51) (v := 0) dX1_search_51 (by decide) ?_
        refine x_vs (pc := 52) (As := [_, _, _, _]) rfl hS lX1_37 dX1_search_52 rfl rfl (Nat.le_of_ble_eq_true rfl) h9 ?_
        rintro _ _ ⟨rfl, row', be', mo', le', q1, q2, hq⟩
        obtain rfl := hq.symm
        refine x_pushV ?_
        refine x_rv (pc := 55) dX1_search_55 rfl ?_
        exact ⟨rfl, row', be', _, mo', le', q2, rfl⟩
      · have hkn : k < nb := by (try simp only [b2_e0, b2_n0, Decidable.not_not] at *) <;> (try simp only [i_lt, i_le, i_eq, not_and, not_or, ne_eq, il_0, il_1, il_2, il_3, il_4, il_5, il_6, il_7, il_8, il_9, il_10, il_14, il_15, il_19, il_20, il_24, il_30, il_31, il_44, il_48, il_49, il_52, il_57, il_59, il_60, il_70, il_99, il_100, il_103, il_108, il_114, il_m1, il_m2, il_m3, il_m4, il_m9, il_m10, il_m100] at *) <;> omega
        refine x_aload_n (pc := 10) (i := 0) dX1_search_10 rfl rfl ?_
        refine x_getR (pc := 11) hS fX1_18 dX1_search_11 rfl rfl ?_
        refine x_iload_n (pc := 14) (i := 3) dX1_search_14 rfl rfl ?_
        refine x_iload_n (pc := 15) (i := 3) dX1_search_15 rfl rfl ?_
        refine x_iload_n (pc := 16) (i := 2) dX1_search_16 rfl rfl ?_
        refine x_icmp_ne (pc := 17) (tgt := 24) dX1_search_17 (by decide) (fun h17 => ?_) (fun h17 => ?_)
        · refine x_aload_n (pc := 24) (i := 1) dX1_search_24 rfl rfl ?_
          refine x_iload_n (pc := 25) (i := 3) dX1_search_25 rfl rfl ?_
          refine x_vs (pc := 26) (As := [_]) rfl hS lX1_27 dX1_search_26 rfl rfl (Nat.le_of_ble_eq_true rfl) (c_X0_holdsOf_7 hS tb' hnb) ?_
          rintro _ _ ⟨rfl, hq⟩
          obtain rfl := hq.symm
          refine x_pushI ?_
          first | (rw [ck, if_pos (show (0 : Int32) ≤ nI k ∧ nI k < fld (setA w 33 (lfI (arr w 8) (arr w 9) wo (arr w 33) k)) 7 0 from ⟨by rw [i_le, il_0, tk]; omega, by rw [i_lt, tb', tk]; omega⟩), arr_setA_a (by decide), arr_setA_a (by decide)]) | skip
          refine x_astN (pc := 29) hS dX1_search_29 rfl (by (try simp only [b2_e0, b2_n0, Decidable.not_not] at *) <;> (try simp only [i_lt, i_le, i_eq, not_and, not_or, ne_eq, il_0, il_1, il_2, il_3, il_4, il_5, il_6, il_7, il_8, il_9, il_10, il_14, il_15, il_19, il_20, il_24, il_30, il_31, il_44, il_48, il_49, il_52, il_57, il_59, il_60, il_70, il_99, il_100, il_103, il_108, il_114, il_m1, il_m2, il_m3, il_m4, il_m9, il_m10, il_m100] at *) <;> omega) (by decide) (fun hS => ?_)
          rw [arr_setA hS0 rfl, setA_setA, lfI_s (by first | exact if_pos h17 | exact if_neg h17)]
          refine x_iinc (pc := 30) (L' := [_, _, _, _]) dX1_search_30 (by decide) rfl (by first | exact nI_inc _ | rfl) rfl ?_
          refine x_goto (pc := 33) (tgt := 2) dX1_search_33 (by decide) ?_
          exact ih (k + 1) (by omega) (by omega)
        · refine x_iconst (pc := 20) (v := 0) dX1_search_20 (by decide) ?_
          refine x_goto (pc := 21) (tgt := 29) dX1_search_21 (by decide) ?_
          first | (rw [ck, if_pos (show (0 : Int32) ≤ nI k ∧ nI k < fld (setA w 33 (lfI (arr w 8) (arr w 9) wo (arr w 33) k)) 7 0 from ⟨by rw [i_le, il_0, tk]; omega, by rw [i_lt, tb', tk]; omega⟩), arr_setA_a (by decide), arr_setA_a (by decide)]) | skip
          refine x_astN (pc := 29) hS dX1_search_29 rfl (by (try simp only [b2_e0, b2_n0, Decidable.not_not] at *) <;> (try simp only [i_lt, i_le, i_eq, not_and, not_or, ne_eq, il_0, il_1, il_2, il_3, il_4, il_5, il_6, il_7, il_8, il_9, il_10, il_14, il_15, il_19, il_20, il_24, il_30, il_31, il_44, il_48, il_49, il_52, il_57, il_59, il_60, il_70, il_99, il_100, il_103, il_108, il_114, il_m1, il_m2, il_m3, il_m4, il_m9, il_m10, il_m100] at *) <;> omega) (by decide) (fun hS => ?_)
          rw [arr_setA hS0 rfl, setA_setA, lfI_s (by first | exact if_pos h17 | exact if_neg h17)]
          refine x_iinc (pc := 30) (L' := [_, _, _, _]) dX1_search_30 (by decide) rfl (by first | exact nI_inc _ | rfl) rfl ?_
          refine x_goto (pc := 33) (tgt := 2) dX1_search_33 (by decide) ?_
          exact ih (k + 1) (by omega) (by omega)
  have hS := hS0
  refine mC.of (L := [_, _, _, _]) okX1_search 1 rfl rfl ?_
  refine x_iconst (pc := 0) (v := 0) dX1_search_0 (by decide) ?_
  refine x_istore_n (pc := 1) (i := 3) (L' := [_, _, _, _]) dX1_search_1 rfl (by decide) rfl ?_
  have h8 := lp (nb + 1) 0 (by omega) (by omega)
  rw [lfI_0, setA_self hS0 rfl] at h8
  exact h8
theorem enum_some {nb n : Nat} {pN H : Nat → Nat} {ok : Nat → Nat → Bool} : ∀ {m j : Nat} {ρ : Nat → Nat} {s : hSt}, j + m = n → (∀ i, i < j → ρ i = nb) → enum (nb + 1) (hF nb n pN H ok) m j ρ s ≠ none
  | 0, j, ρ, s, h, e => by
    show hF nb n pN H ok ρ s ≠ none
    cases s with
    | some x =>
      unfold hF
      split
      · exact fun q => by cases q
      · exact fun q => by cases q
    | none =>
      have hc : hCan nb n H ok ρ = true := by
        unfold hCan hHeld
        rw [Bool.and_eq_true, allN_iff, allN_iff]
        refine ⟨fun i hi => by rw [e i (by omega)]; simp, fun b hb => ?_⟩
        have : hIn ρ b n = 0 := cnt_none (fun i hi => by rw [e i (by omega)]; simp; omega)
        rw [this]; simp
      rw [hF_3 rfl hc]
      exact fun q => by cases q
  | m + 1, j, ρ, s, h, e => by
    show enum (nb + 1) (hF nb n pN H ok) m (j + 1) (ud ρ j nb) (foldN _ nb s) ≠ none
    refine enum_some (by omega) (fun i hi => ?_)
    by_cases q : i = j
    · subst q; exact ud_eq
    · rw [ud_ne q]; exact e i (by omega)

