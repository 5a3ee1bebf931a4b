-- seasons: the reference's call; both
abbrev isM (x : Int32) : Prop := (0 ≤ x ∧ x ≤ 3) ∨ (10 ≤ x ∧ x ≤ 14) ∨ (20 ≤ x ∧ x ≤ 24)
theorem isM_W {x : Int32} : isM x ↔ isW x := by
  have h1 : x ≤ 14 ↔ x < 15 := by rw [i_le, i_lt, show (14 : Int32).toInt = 14 from rfl, show (15 : Int32).toInt = 15 from rfl]; omega
  have h2 : x ≤ 24 ↔ x < 25 := by rw [i_le, i_lt, show (24 : Int32).toInt = 24 from rfl, show (25 : Int32).toInt = 25 from rfl]; omega
  unfold isM isW
  rw [h1, h2]
theorem c_X8_season_no {d : Nat} {w : mW} {sh l i n x : Int32} (hS : Shape w) (h : ¬ ((0 ≤ sh ∧ sh ≤ 3) ∧ (0 ≤ l ∧ l ≤ 2) ∧ (0 ≤ n ∧ n ≤ 20) ∧ isM x)) : mC (d + 2) kX8_season [.ref 44, .int sh, .int l, .int i, .int n, .int x] w (fun r w' => r = some (.int (if 0 ≤ sh ∧ sh ≤ 3 then -2 else -1)) ∧ w' = setF w 44 0 0) := by
  refine mC.of (L := [_, _, _, _, _, _, _, _, _, _]) okX8_season 4 rfl rfl ?_
  refine x_aload_n (pc := 0) (i := 0) dX8_season_0 rfl rfl ?_
  refine x_iconst (pc := 1) (v := 0) dX8_season_1 (by decide) ?_
  refine x_putI (pc := 2) hS fX8_82 dX8_season_2 rfl rfl rfl rfl (fun hS => ?_)
  refine x_iload_n (pc := 5) (i := 1) dX8_season_5 rfl rfl ?_
  refine x_ss (pc := 6) (As := [_]) rfl lX8_101 dX8_season_6 rfl (Nat.le_of_ble_eq_true rfl) c_X8_isSheet ?_
  rintro _ _ ⟨rfl, hq⟩
  obtain rfl := hq.symm
  refine x_pushI ?_
  refine x_if_ne (pc := 9) (tgt := 14) dX8_season_9 (by decide) (fun h9 => ?_) (fun h9 => ?_)
  · refine x_iload_n (pc := 14) (i := 2) dX8_season_14 rfl rfl ?_
    refine x_ss (pc := 15) (As := [_]) rfl lX8_105 dX8_season_15 rfl (Nat.le_of_ble_eq_true rfl) c_X8_isSort ?_
    rintro _ _ ⟨rfl, hq⟩
    obtain rfl := hq.symm
    refine x_pushI ?_
    refine x_if_eq (pc := 18) (tgt := 66) dX8_season_18 (by decide) (fun h18 => ?_) (fun h18 => ?_)
    · refine x_bipush (pc := 66) (v := (-2)) dX8_season_66 (by decide) ?_
      refine x_ri (pc := 68) dX8_season_68 rfl rfl ?_
      exact ⟨by rw [if_pos (b2_n0.mp h9)], rfl⟩
    · refine x_iload (pc := 21) dX8_season_21 rfl ?_
      refine x_iconst (pc := 23) (v := 0) dX8_season_23 (by decide) ?_
      refine x_bipush (pc := 24) (v := 20) dX8_season_24 (by decide) ?_
      refine x_ss (pc := 26) (As := [_, _, _]) rfl lX8_88 dX8_season_26 rfl (Nat.le_of_ble_eq_true rfl) c_X8_within ?_
      rintro _ _ ⟨rfl, hq⟩
      obtain rfl := hq.symm
      refine x_pushI ?_
      refine x_if_eq (pc := 29) (tgt := 66) dX8_season_29 (by decide) (fun h29 => ?_) (fun h29 => ?_)
      · refine x_bipush (pc := 66) (v := (-2)) dX8_season_66 (by decide) ?_
        refine x_ri (pc := 68) dX8_season_68 rfl rfl ?_
        exact ⟨by rw [if_pos (b2_n0.mp h9)], rfl⟩
      · refine x_iload (pc := 32) dX8_season_32 rfl ?_
        refine x_iconst (pc := 34) (v := 0) dX8_season_34 (by decide) ?_
        refine x_iconst (pc := 35) (v := 3) dX8_season_35 (by decide) ?_
        refine x_ss (pc := 36) (As := [_, _, _]) rfl lX8_88 dX8_season_36 rfl (Nat.le_of_ble_eq_true rfl) c_X8_within ?_
        rintro _ _ ⟨rfl, hq⟩
        obtain rfl := hq.symm
        refine x_pushI ?_
        refine x_if_ne (pc := 39) (tgt := 69) dX8_season_39 (by decide) (fun h39 => ?_) (fun h39 => ?_)
        · refine absurd ⟨b2_n0.mp h9, b2_n0.mp h18, b2_n0.mp h29, ?_⟩ h
          first | exact Or.inl (b2_n0.mp h39) | exact Or.inr (Or.inl (b2_n0.mp h51)) | exact Or.inr (Or.inr (b2_n0.mp h63))
        · refine x_iload (pc := 42) dX8_season_42 rfl ?_
          refine x_bipush (pc := 44) (v := 10) dX8_season_44 (by decide) ?_
          refine x_bipush (pc := 46) (v := 14) dX8_season_46 (by decide) ?_
          refine x_ss (pc := 48) (As := [_, _, _]) rfl lX8_88 dX8_season_48 rfl (Nat.le_of_ble_eq_true rfl) c_X8_within ?_
          rintro _ _ ⟨rfl, hq⟩
          obtain rfl := hq.symm
          refine x_pushI ?_
          refine x_if_ne (pc := 51) (tgt := 69) dX8_season_51 (by decide) (fun h51 => ?_) (fun h51 => ?_)
          · refine absurd ⟨b2_n0.mp h9, b2_n0.mp h18, b2_n0.mp h29, ?_⟩ h
            first | exact Or.inl (b2_n0.mp h39) | exact Or.inr (Or.inl (b2_n0.mp h51)) | exact Or.inr (Or.inr (b2_n0.mp h63))
          · refine x_iload (pc := 54) dX8_season_54 rfl ?_
            refine x_bipush (pc := 56) (v := 20) dX8_season_56 (by decide) ?_
            refine x_bipush (pc := 58) (v := 24) dX8_season_58 (by decide) ?_
            refine x_ss (pc := 60) (As := [_, _, _]) rfl lX8_88 dX8_season_60 rfl (Nat.le_of_ble_eq_true rfl) c_X8_within ?_
            rintro _ _ ⟨rfl, hq⟩
            obtain rfl := hq.symm
            refine x_pushI ?_
            refine x_if_ne (pc := 63) (tgt := 69) dX8_season_63 (by decide) (fun h63 => ?_) (fun h63 => ?_)
            · refine absurd ⟨b2_n0.mp h9, b2_n0.mp h18, b2_n0.mp h29, ?_⟩ h
              first | exact Or.inl (b2_n0.mp h39) | exact Or.inr (Or.inl (b2_n0.mp h51)) | exact Or.inr (Or.inr (b2_n0.mp h63))
            · refine x_bipush (pc := 66) (v := (-2)) dX8_season_66 (by decide) ?_
              refine x_ri (pc := 68) dX8_season_68 rfl rfl ?_
              exact ⟨by rw [if_pos (b2_n0.mp h9)], rfl⟩
  · refine x_iconst (pc := 12) (v := (-1)) dX8_season_12 (by decide) ?_
    refine x_ri (pc := 13) dX8_season_13 rfl rfl ?_
    exact ⟨by rw [if_neg (b2_e0.mp h9)], rfl⟩
theorem season_w {d : Nat} {Q : Option Value → mW → Prop} {w : mW} {l i n x : Int32} {s : Nat} (hs : s < 4) (hS0 : Shape w) (h : (0 ≤ l ∧ l ≤ 2) ∧ (0 ≤ n ∧ n ≤ 20) ∧ isM x) (k : mJ mX0 (d + 2) kX8_season Q 69 [.ref 44, .int (nI s), .int l, .int i, .int n, .int x, .null, .null, .null, .null] [] (setF w 44 0 0)) : mC (d + 2) kX8_season [.ref 44, .int (nI s), .int l, .int i, .int n, .int x] w Q := by
  have hS := hS0
  have ts : (nI s).toInt = (s : Int) := nI_toInt (by omega)
  refine mC.of (L := [_, _, _, _, _, _, _, _, _, _]) okX8_season 4 rfl rfl ?_
  refine x_aload_n (pc := 0) (i := 0) dX8_season_0 rfl rfl ?_
  refine x_iconst (pc := 1) (v := 0) dX8_season_1 (by decide) ?_
  refine x_putI (pc := 2) hS fX8_82 dX8_season_2 rfl rfl rfl rfl (fun hS => ?_)
  refine x_iload_n (pc := 5) (i := 1) dX8_season_5 rfl rfl ?_
  refine x_ss (pc := 6) (As := [_]) rfl lX8_101 dX8_season_6 rfl (Nat.le_of_ble_eq_true rfl) c_X8_isSheet ?_
  rintro _ _ ⟨rfl, hq⟩
  obtain rfl := hq.symm
  refine x_pushI ?_
  refine x_if_ne (pc := 9) (tgt := 14) dX8_season_9 (by decide) (fun h9 => ?_) (fun h9 => absurd h9 (by rw [b2_n0]; exact ⟨by (try simp only [b2_e0, b2_n0, Decidable.not_not] at *) <;> (try simp only [i_lt, i_le, i_eq, not_and, not_or, ne_eq, il_0, il_1, il_2, il_3, il_4, il_5, il_6, il_7, il_8, il_9, il_10, il_14, il_15, il_19, il_20, il_24, il_30, il_31, il_44, il_48, il_49, il_52, il_57, il_59, il_60, il_70, il_99, il_100, il_103, il_108, il_114, il_m1, il_m2, il_m3, il_m4, il_m9, il_m10, il_m100] at *) <;> omega, by (try simp only [b2_e0, b2_n0, Decidable.not_not] at *) <;> (try simp only [i_lt, i_le, i_eq, not_and, not_or, ne_eq, il_0, il_1, il_2, il_3, il_4, il_5, il_6, il_7, il_8, il_9, il_10, il_14, il_15, il_19, il_20, il_24, il_30, il_31, il_44, il_48, il_49, il_52, il_57, il_59, il_60, il_70, il_99, il_100, il_103, il_108, il_114, il_m1, il_m2, il_m3, il_m4, il_m9, il_m10, il_m100] at *) <;> omega⟩))
  refine x_iload_n (pc := 14) (i := 2) dX8_season_14 rfl rfl ?_
  refine x_ss (pc := 15) (As := [_]) rfl lX8_105 dX8_season_15 rfl (Nat.le_of_ble_eq_true rfl) c_X8_isSort ?_
  rintro _ _ ⟨rfl, hq⟩
  obtain rfl := hq.symm
  refine x_pushI ?_
  refine x_if_eq (pc := 18) (tgt := 66) dX8_season_18 (by decide) (fun h18 => absurd h18 (by rw [b2_e0]; exact not_not_intro h.1)) (fun h18 => ?_)
  refine x_iload (pc := 21) dX8_season_21 rfl ?_
  refine x_iconst (pc := 23) (v := 0) dX8_season_23 (by decide) ?_
  refine x_bipush (pc := 24) (v := 20) dX8_season_24 (by decide) ?_
  refine x_ss (pc := 26) (As := [_, _, _]) rfl lX8_88 dX8_season_26 rfl (Nat.le_of_ble_eq_true rfl) c_X8_within ?_
  rintro _ _ ⟨rfl, hq⟩
  obtain rfl := hq.symm
  refine x_pushI ?_
  refine x_if_eq (pc := 29) (tgt := 66) dX8_season_29 (by decide) (fun h29 => absurd h29 (by rw [b2_e0]; exact not_not_intro h.2.1)) (fun h29 => ?_)
  refine x_iload (pc := 32) dX8_season_32 rfl ?_
  refine x_iconst (pc := 34) (v := 0) dX8_season_34 (by decide) ?_
  refine x_iconst (pc := 35) (v := 3) dX8_season_35 (by decide) ?_
  refine x_ss (pc := 36) (As := [_, _, _]) rfl lX8_88 dX8_season_36 rfl (Nat.le_of_ble_eq_true rfl) c_X8_within ?_
  rintro _ _ ⟨rfl, hq⟩
  obtain rfl := hq.symm
  refine x_pushI ?_
  refine x_if_ne (pc := 39) (tgt := 69) dX8_season_39 (by decide) (fun h39 => ?_) (fun h39 => ?_)
  · exact k
  · refine x_iload (pc := 42) dX8_season_42 rfl ?_
    refine x_bipush (pc := 44) (v := 10) dX8_season_44 (by decide) ?_
    refine x_bipush (pc := 46) (v := 14) dX8_season_46 (by decide) ?_
    refine x_ss (pc := 48) (As := [_, _, _]) rfl lX8_88 dX8_season_48 rfl (Nat.le_of_ble_eq_true rfl) c_X8_within ?_
    rintro _ _ ⟨rfl, hq⟩
    obtain rfl := hq.symm
    refine x_pushI ?_
    refine x_if_ne (pc := 51) (tgt := 69) dX8_season_51 (by decide) (fun h51 => ?_) (fun h51 => ?_)
    · exact k
    · refine x_iload (pc := 54) dX8_season_54 rfl ?_
      refine x_bipush (pc := 56) (v := 20) dX8_season_56 (by decide) ?_
      refine x_bipush (pc := 58) (v := 24) dX8_season_58 (by decide) ?_
      refine x_ss (pc := 60) (As := [_, _, _]) rfl lX8_88 dX8_season_60 rfl (Nat.le_of_ble_eq_true rfl) c_X8_within ?_
      rintro _ _ ⟨rfl, hq⟩
      obtain rfl := hq.symm
      refine x_pushI ?_
      refine x_if_ne (pc := 63) (tgt := 69) dX8_season_63 (by decide) (fun h63 => ?_) (fun h63 => ?_)
      · exact k
      · refine x_bipush (pc := 66) (v := (-2)) dX8_season_66 (by decide) ?_
        refine x_ri (pc := 68) dX8_season_68 rfl rfl ?_
        exfalso
        have z1 := b2_e0.mp h39
        have z2 := b2_e0.mp h51
        have z3 := b2_e0.mp h63
        exact h.2.2.elim z1 (fun z => z.elim z2 z3)
theorem c_X8_season_f {d : Nat} {w : mW} {l i n x : Int32} {s : Nat} (hS0 : Shape w) (hs : s < 4) (h : (0 ≤ l ∧ l ≤ 2) ∧ (0 ≤ n ∧ n ≤ 20) ∧ isM x) (ha : ¬ agE (arr w 45 s) (arr w 46 s) l i (2 * n) = 0) : mC (d + 2) kX8_season [.ref 44, .int (nI s), .int l, .int i, .int n, .int x] w (fun r w' => r = some (.int (-10 - agE (arr w 45 s) (arr w 46 s) l i (2 * n))) ∧ w' = setF w 44 0 (agE (arr w 45 s) (arr w 46 s) l i (2 * n))) := by
  refine season_w hs hS0 h ?_
  have hS : Shape (setF w 44 0 0) := hS0.stF rfl rfl _
  refine x_aload_n (pc := 69) (i := 0) dX8_season_69 rfl rfl ?_
  refine x_iload_n (pc := 70) (i := 1) dX8_season_70 rfl rfl ?_
  refine x_iload_n (pc := 71) (i := 2) dX8_season_71 rfl rfl ?_
  refine x_iload_n (pc := 72) (i := 3) dX8_season_72 rfl rfl ?_
  refine x_iconst (pc := 73) (v := 2) dX8_season_73 (by decide) ?_
  refine x_iload (pc := 74) dX8_season_74 rfl ?_
  refine x_imul (pc := 76) dX8_season_76 ?_
  refine x_vs (pc := 77) (As := [_, _, _, _]) rfl hS lX8_108 dX8_season_77 rfl rfl (Nat.le_of_ble_eq_true rfl) (c_X8_against hS hs) ?_
  rintro _ _ ⟨rfl, hq⟩
  obtain rfl := hq.symm
  refine x_pushI ?_
  rw [arr_setF, arr_setF]
  refine x_istore (pc := 80) (L' := [_, _, _, _, _, _, _, _, _, _]) dX8_season_80 (by decide) rfl ?_
  refine x_iload (pc := 82) dX8_season_82 rfl ?_
  refine x_if_eq (pc := 84) (tgt := 94) dX8_season_84 (by decide) (fun h84 => absurd h84 (by exact ha)) (fun h84 => ?_)
  refine x_aload_n (pc := 87) (i := 0) dX8_season_87 rfl rfl ?_
  refine x_iload (pc := 88) dX8_season_88 rfl ?_
  refine x_vs (pc := 90) (As := [_]) rfl hS lX8_112 dX8_season_90 rfl rfl (Nat.le_of_ble_eq_true rfl) (c_X8_fails hS) ?_
  rintro _ _ ⟨rfl, hq⟩
  obtain rfl := hq.symm
  refine x_pushI ?_
  refine x_ri (pc := 93) dX8_season_93 rfl rfl ?_
  exact ⟨rfl, setF_setF _ _ _ _ _⟩
theorem c_X8_season_s {d : Nat} {w : mW} {l i n x : Int32} {s : Nat} (hS0 : Shape w) (hs : s < 4) (h : (0 ≤ l ∧ l ≤ 2) ∧ (0 ≤ n ∧ n ≤ 20) ∧ isM x) (ha : agE (arr w 45 s) (arr w 46 s) l i (2 * n) = 0) (h0 : fld w 44 5 = 0) : mC (d + 2) kX8_season [.ref 44, .int (nI s), .int l, .int i, .int n, .int x] w (fun r w' => r = some (.int (-3)) ∧ w' = setF w 44 0 0) := by
  refine season_w hs hS0 h ?_
  have hS : Shape (setF w 44 0 0) := hS0.stF rfl rfl _
  refine x_aload_n (pc := 69) (i := 0) dX8_season_69 rfl rfl ?_
  refine x_iload_n (pc := 70) (i := 1) dX8_season_70 rfl rfl ?_
  refine x_iload_n (pc := 71) (i := 2) dX8_season_71 rfl rfl ?_
  refine x_iload_n (pc := 72) (i := 3) dX8_season_72 rfl rfl ?_
  refine x_iconst (pc := 73) (v := 2) dX8_season_73 (by decide) ?_
  refine x_iload (pc := 74) dX8_season_74 rfl ?_
  refine x_imul (pc := 76) dX8_season_76 ?_
  refine x_vs (pc := 77) (As := [_, _, _, _]) rfl hS lX8_108 dX8_season_77 rfl rfl (Nat.le_of_ble_eq_true rfl) (c_X8_against hS hs) ?_
  rintro _ _ ⟨rfl, hq⟩
  obtain rfl := hq.symm
  refine x_pushI ?_
  rw [arr_setF, arr_setF, ha]
  refine x_istore (pc := 80) (L' := [_, _, _, _, _, _, _, _, _, _]) dX8_season_80 (by decide) rfl ?_
  refine x_iload (pc := 82) dX8_season_82 rfl ?_
  refine x_if_eq (pc := 84) (tgt := 94) dX8_season_84 (by decide) (fun h84 => ?_) (fun h84 => absurd h84 (by exact not_not_intro rfl))
  refine x_aload_n (pc := 94) (i := 0) dX8_season_94 rfl rfl ?_
  refine x_getI (pc := 95) hS fX8_92 dX8_season_95 rfl rfl ?_
  rw [fld_setF_k (by decide)]
  refine x_if_ne (pc := 98) (tgt := 104) dX8_season_98 (by decide) (fun h98 => absurd h98 (by exact not_not_intro h0)) (fun h98 => ?_)
  refine x_bipush (pc := 101) (v := (-3)) dX8_season_101 (by decide) ?_
  refine x_ri (pc := 103) dX8_season_103 rfl rfl ?_
  exact ⟨rfl, rfl⟩
abbrev rfM (w : mW) (F : Nat) : Nat → Int32 := fun t => refE (fld w 44 5) (fld w 44 6) (arr w 47 (F + 2 * t)) (arr w 47 (F + 2 * t + 1))
def ansM (fw NW : Int32) (nw : Nat) (x : Int32) (s : S5) : Int32 := if x = 1 then fw else if fw = -9 then telM NW nw x s else -100 - fw
theorem back_eq {w w2 w3 w4 : mW} {nb nw : Nat} {re : Nat → Int32} {s0 s : S5} (hs0 : s0.1 = arr w 52 ∧ s0.2.1 = arr w 53 ∧ s0.2.2.1 = arr w 55 ∧ s0.2.2.2.1 = arr w 56) (hk : cpT 4 (kX w) kD [59, 60, 61, 62] w w2 (fun _ => nw)) (hm : mS w2 s w3) (ho : sOK nb nw re s0 s) (hp : cpT 4 (pX w3) kSrc [52, 53, 55, 56] w3 w4 (fun _ => nw)) : ∀ a, a < 4 → arr w4 (kSrc a) = arr w (kSrc a) := by
  intro a ha
  rw [hp.2.2 a ha]
  funext j
  unfold tkI
  by_cases q : j < nw
  · rw [if_pos q]
    show arr w3 (59 + a) j = _
    rw [hm.2.1.1 (59 + a) (by simp; omega), show arr w2 (59 + a) = _ from hk.2.2 a ha]
    unfold tkI
    rw [if_pos q]
  · rw [if_neg q]
    obtain ⟨o1, o2, o3, o4⟩ := ho.2 j (by omega)
    obtain ⟨-, -, m1, m2, m3, m4, -⟩ := hm
    obtain ⟨z1, z2, z3, z4⟩ := hs0
    match a, ha with
    | 0, _ => show arr w3 52 j = arr w 52 j; rw [m1, o1, z1]
    | 1, _ => show arr w3 53 j = arr w 53 j; rw [m2, o2, z2]
    | 2, _ => show arr w3 55 j = arr w 55 j; rw [m3, o3, z3]
    | 3, _ => show arr w3 56 j = arr w 56 j; rw [m4, o4, z4]
theorem Gr.cut {A A' : List Nat} {F : List (Nat × Nat)} {w w' : mW} (g : Gr A F w w') (h : ∀ a, a ∈ A → a ∉ A' → arr w' a = arr w a) : Gr A' F w w' := ⟨fun a ha => by
  by_cases q : a ∈ A
  · exact h a q ha
  · exact g.1 a q, g.2⟩
set_option maxHeartbeats 1000000 in
theorem c_X8_season_m {d : Nat} {w : mW} {l x : Int32} {s i0 n nb nw : Nat} (hS0 : Shape w) (hs : s < 4) (h : (0 ≤ l ∧ l ≤ 2) ∧ (0 ≤ nI n ∧ nI n ≤ 20) ∧ isM x) (hn : n ≤ 20) (ha : agE (arr w 45 s) (arr w 46 s) l (nI i0) (2 * nI n) = 0) (h0 : ¬ fld w 44 5 = 0) (tb : (fld w 44 5).toInt = (nb : Int)) (hnb : nb ≤ 5) (tw : (fld w 44 6).toInt = (nw : Int)) (hnw : nw ≤ 5) (hB : BarOK nb (arr w 48) (arr w 49) (arr w 50) (arr w 51)) (hW : WalOK nb nw (arr w 52) (arr w 53) (arr w 54) (arr w 55)) (hi : i0 + 2 * n ≤ 60) : mC (d + 6) kX8_season [.ref 44, .int (nI s), .int l, .int (nI i0), .int (nI n), .int x] w (fun r w' => r = some (.int (if rfN (rfM w (60 * s + i0)) n = 0 then ansM (fwE (mG w nw (60 * s + i0) n).1) (fld w 44 6) nw x (mG w nw (60 * s + i0) n).2 else rfN (rfM w (60 * s + i0)) n)) ∧ Shape w' ∧ Gr [59, 60, 61, 62] [(44, 0), (44, 26)] w w' ∧ fld w' 44 0 = 0 ∧ (rfN (rfM w (60 * s + i0)) n = 0 → sOK nb nw (arr w 54) (arr w 52, arr w 53, arr w 55, arr w 56, 0) (mG w nw (60 * s + i0) n).2)) := by
  refine season_w hs hS0 h ?_
  have hSA : Shape (setF w 44 0 0) := hS0.stF rfl rfl _
  have hS := hSA
  have a5 : fld (setF w 44 0 0) 44 5 = fld w 44 5 := fld_setF_k (by decide) _
  have a6 : fld (setF w 44 0 0) 44 6 = fld w 44 6 := fld_setF_k (by decide) _
  have a0 : fld (setF w 44 0 0) 44 0 = 0 := fld_setF hS0 rfl rfl _
  have aA : ∀ a, arr (setF w 44 0 0) a = arr w a := fun a => arr_setF _
  have gA : Gr [] [(44, 0)] w (setF w 44 0 0) := Gr.rf.stF (by decide) _
  have tn : (nI n).toInt = (n : Int) := nI_toInt (by omega)
  have fin : rfN (rfM w (60 * s + i0)) n = 0 → mJ mX0 (d + 6) kX8_season (fun r w' => r = some (.int (if rfN (rfM w (60 * s + i0)) n = 0 then ansM (fwE (mG w nw (60 * s + i0) n).1) (fld w 44 6) nw x (mG w nw (60 * s + i0) n).2 else rfN (rfM w (60 * s + i0)) n)) ∧ Shape w' ∧ Gr [59, 60, 61, 62] [(44, 0), (44, 26)] w w' ∧ fld w' 44 0 = 0 ∧ (rfN (rfM w (60 * s + i0)) n = 0 → sOK nb nw (arr w 54) (arr w 52, arr w 53, arr w 55, arr w 56, 0) (mG w nw (60 * s + i0) n).2)) 168 [.ref 44, .int (nI s), .int l, .int (nI i0), .int (nI n), .int x, .int 0, .int (nI (60 * s + i0)), .null, .null] [] (setF w 44 0 0) := by
    intro hr
    have hS := hSA
    refine x_aload_n (pc := 168) (i := 0) dX8_season_168 rfl rfl ?_
    refine x_vs (pc := 169) (As := []) rfl hS lX8_193 dX8_season_169 rfl rfl (Nat.le_of_ble_eq_true rfl) (c_X8_keep hS (by rw [a6]; exact tw) hnw) ?_
    rintro _ w2 ⟨rfl, hK⟩
    have hS := hK.1
    have eG : mG w2 nw (60 * s + i0) n = mG w nw (60 * s + i0) n := by (show sGo (fun t s => sSt _ _ nw (arr w2 48) (arr w2 49) (arr w2 50) (arr w2 51) (arr w2 54) (arr w2 47 _) (arr w2 47 _) s) n (arr w2 52, arr w2 53, arr w2 55, arr w2 56, 0) = _; rw [hK.2.1.2 44 5 (by decide), hK.2.1.2 44 6 (by decide), a5, a6, hK.2.1.1 47 (by decide), hK.2.1.1 48 (by decide), hK.2.1.1 49 (by decide), hK.2.1.1 50 (by decide), hK.2.1.1 51 (by decide), hK.2.1.1 54 (by decide), hK.2.1.1 52 (by decide), hK.2.1.1 53 (by decide), hK.2.1.1 55 (by decide), hK.2.1.1 56 (by decide)]; simp only [aA])
    have k5 : fld w2 44 5 = fld w 44 5 := by rw [hK.2.1.2 44 5 (by decide), a5]
    have k6 : fld w2 44 6 = fld w 44 6 := by rw [hK.2.1.2 44 6 (by decide), a6]
    have kA : ∀ a, a ∉ [59, 60, 61, 62] → arr w2 a = arr w a := fun a q => by rw [hK.2.1.1 a q, aA]
    have hgo := c_X8_goSeason (d := d + 1) (w := w2) (F := 60 * s + i0) (n := n) (nb := nb) (nw := nw) hS (by rw [k5]; exact tb) hnb (by rw [k6]; exact tw) hnw (by rw [kA 48 (by decide), kA 49 (by decide), kA 50 (by decide), kA 51 (by decide)]; exact hB) (by rw [kA 52 (by decide), kA 53 (by decide), kA 54 (by decide), kA 55 (by decide)]; exact hW) hn (by omega) (fun t ht => by rw [k5, k6, kA 47 (by decide)]; exact refE_0 (rfN_0 (f := rfM w (60 * s + i0)) hr t ht))
    rw [eG, kA 52 (by decide), kA 53 (by decide), kA 54 (by decide), kA 55 (by decide), kA 56 (by decide)] at hgo
    refine x_pushV ?_
    refine x_aload_n (pc := 172) (i := 0) dX8_season_172 rfl rfl ?_
    refine x_iload (pc := 173) dX8_season_173 rfl ?_
    refine x_iload (pc := 175) dX8_season_175 rfl ?_
    refine x_vs (pc := 177) (As := [_, _]) rfl hS lX8_196 dX8_season_177 rfl rfl (Nat.le_of_ble_eq_true rfl) hgo ?_
    rintro _ w3 ⟨rfl, hM, hO⟩
    have hS := hM.1
    have hSw3 := hM.1
    refine x_pushI ?_
    refine x_istore (pc := 180) (L' := [_, _, _, _, _, _, _, _, _, _]) dX8_season_180 (by decide) rfl ?_
    refine x_aload_n (pc := 182) (i := 0) dX8_season_182 rfl rfl ?_
    refine x_iload (pc := 183) dX8_season_183 rfl ?_
    refine x_vs (pc := 185) (As := [_]) rfl hS lX8_199 dX8_season_185 rfl rfl (Nat.le_of_ble_eq_true rfl) (c_X8_tellSeason hM (by rw [k6]; exact tw) hnw) ?_
    rintro _ _ ⟨rfl, hq⟩
    obtain rfl := hq.symm
    refine x_pushI ?_
    rw [k6]
    refine x_istore (pc := 188) (L' := [_, _, _, _, _, _, _, _, _, _]) dX8_season_188 (by decide) rfl ?_
    refine x_aload_n (pc := 190) (i := 0) dX8_season_190 rfl rfl ?_
    refine x_vs (pc := 191) (As := []) rfl hS lX8_202 dX8_season_191 rfl rfl (Nat.le_of_ble_eq_true rfl) (c_X8_putBack hS (by rw [hM.2.1.2 44 6 (by decide), k6]; exact tw) hnw) ?_
    rintro _ w4 ⟨rfl, hP⟩
    have hS := hP.1
    have hbk := back_eq (w := setF w 44 0 0) (w2 := w2) (w3 := w3) (w4 := w4) (s0 := (arr w 52, arr w 53, arr w 55, arr w 56, 0)) ⟨(aA 52).symm, (aA 53).symm, (aA 55).symm, (aA 56).symm⟩ hK hM hO hP
    have g4 : Gr [52, 53, 55, 56, 59, 60, 61, 62] [(44, 0), (44, 26)] w w4 := (((gA.up (by decide) (by decide)).tr (hK.2.1.up (by decide) (by decide))).tr (hM.2.1.up (by decide) (by decide))).tr (hP.2.1.up (by decide) (by decide))
    have g5 : Gr [59, 60, 61, 62] [(44, 0), (44, 26)] w w4 := g4.cut (fun a h1 h2 => by (have c0 := hbk 0 (by decide); have c1 := hbk 1 (by decide); have c2 := hbk 2 (by decide); have c3 := hbk 3 (by decide); simp only [aA] at c0 c1 c2 c3; simp only [List.mem_cons, List.not_mem_nil, or_false] at h1 h2; rcases h1 with q | q | q | q | q | q | q | q <;> subst q <;> first | exact c0 | exact c1 | exact c2 | exact c3 | exact absurd h2 (by simp)))
    have f4 : fld w4 44 0 = 0 := by rw [hP.2.1.2 44 0 (by decide), hM.2.1.2 44 0 (by decide), hK.2.1.2 44 0 (by decide), a0]
    refine x_pushV ?_
    refine x_iload (pc := 194) dX8_season_194 rfl ?_
    refine x_iconst (pc := 196) (v := 1) dX8_season_196 (by decide) ?_
    refine x_icmp_ne (pc := 197) (tgt := 205) dX8_season_197 (by decide) (fun h197 => ?_) (fun h197 => ?_)
    · refine x_iload (pc := 205) dX8_season_205 rfl ?_
      refine x_bipush (pc := 207) (v := (-9)) dX8_season_207 (by decide) ?_
      refine x_icmp_ne (pc := 209) (tgt := 217) dX8_season_209 (by decide) (fun h209 => ?_) (fun h209 => ?_)
      · refine x_bipush (pc := 217) (v := (-100)) dX8_season_217 (by decide) ?_
        refine x_iload (pc := 219) dX8_season_219 rfl ?_
        refine x_isub (pc := 221) dX8_season_221 ?_
        refine x_ri (pc := 222) dX8_season_222 rfl rfl ?_
        refine ⟨?_, hS, g5, f4, fun _ => hO⟩
        rw [if_pos hr]
        unfold ansM
        first | (have z9 : x = 1 := h197; rw [if_pos z9]) | (have z9 : ¬ x = 1 := h197; rw [if_neg z9]; first | (have z8 : fwE (mG w nw (60 * s + i0) n).1 = -9 := h209; rw [if_pos z8]) | (have z8 : ¬ fwE (mG w nw (60 * s + i0) n).1 = -9 := h209; rw [if_neg z8]))
      · refine x_iload (pc := 212) dX8_season_212 rfl ?_
        refine x_goto (pc := 214) (tgt := 222) dX8_season_214 (by decide) ?_
        refine x_ri (pc := 222) dX8_season_222 rfl rfl ?_
        refine ⟨?_, hS, g5, f4, fun _ => hO⟩
        rw [if_pos hr]
        unfold ansM
        first | (have z9 : x = 1 := h197; rw [if_pos z9]) | (have z9 : ¬ x = 1 := h197; rw [if_neg z9]; first | (have z8 : fwE (mG w nw (60 * s + i0) n).1 = -9 := h209; rw [if_pos z8]) | (have z8 : ¬ fwE (mG w nw (60 * s + i0) n).1 = -9 := h209; rw [if_neg z8]))
    · refine x_iload (pc := 200) dX8_season_200 rfl ?_
      refine x_goto (pc := 202) (tgt := 222) dX8_season_202 (by decide) ?_
      refine x_ri (pc := 222) dX8_season_222 rfl rfl ?_
      refine ⟨?_, hS, g5, f4, fun _ => hO⟩
      rw [if_pos hr]
      unfold ansM
      first | (have z9 : x = 1 := h197; rw [if_pos z9]) | (have z9 : ¬ x = 1 := h197; rw [if_neg z9]; first | (have z8 : fwE (mG w nw (60 * s + i0) n).1 = -9 := h209; rw [if_pos z8]) | (have z8 : ¬ fwE (mG w nw (60 * s + i0) n).1 = -9 := h209; rw [if_neg z8]))
  have lp : ∀ (m k : Nat), k ≤ n → n < k + m → rfN (rfM w (60 * s + i0)) k = 0 → mJ mX0 (d + 6) kX8_season (fun r w' => r = some (.int (if rfN (rfM w (60 * s + i0)) n = 0 then ansM (fwE (mG w nw (60 * s + i0) n).1) (fld w 44 6) nw x (mG w nw (60 * s + i0) n).2 else rfN (rfM w (60 * s + i0)) n)) ∧ Shape w' ∧ Gr [59, 60, 61, 62] [(44, 0), (44, 26)] w w' ∧ fld w' 44 0 = 0 ∧ (rfN (rfM w (60 * s + i0)) n = 0 → sOK nb nw (arr w 54) (arr w 52, arr w 53, arr w 55, arr w 56, 0) (mG w nw (60 * s + i0) n).2)) 115 [.ref 44, .int (nI s), .int l, .int (nI i0), .int (nI n), .int x, .int 0, .int (nI (60 * s + i0)), .int (nI k), .null] [] (setF w 44 0 0) := by
    intro m
    induction m with
    | zero => intro k h1 h2; omega
    | succ m ih =>
      intro k hk1 hk2 hr
      have tk : (nI k).toInt = (k : Int) := nI_toInt (by omega)
      have i2 : (2 : Int32) * nI k = nI (2 * k) := pk_mul 2 k
      refine x_iload (pc := 115) dX8_season_115 rfl ?_
      refine x_iload (pc := 117) dX8_season_117 rfl ?_
      refine x_icmp_ge (pc := 119) (tgt := 168) dX8_season_119 (by decide) (fun h119 => ?_) (fun h119 => ?_)
      · have e := show k = n by (try simp only [b2_e0, b2_n0, Decidable.not_not] at *) <;> (try simp only [i_lt, i_le, i_eq, not_and, not_or, ne_eq, il_0, il_1, il_2, il_3, il_4, il_5, il_6, il_7, il_8, il_9, il_10, il_14, il_15, il_19, il_20, il_24, il_30, il_31, il_44, il_48, il_49, il_52, il_57, il_59, il_60, il_70, il_99, il_100, il_103, il_108, il_114, il_m1, il_m2, il_m3, il_m4, il_m9, il_m10, il_m100] at *) <;> omega
        rw [e] at hr
        exact mJ.weak (wk_v (wk_v (wk_v (wk_v (wk_v (wk_v (wk_v (wk_v (wk_n (wk_n wk_0)))))))))) (fin hr)
      · have hkn : k < n := by (try simp only [b2_e0, b2_n0, Decidable.not_not] at *) <;> (try simp only [i_lt, i_le, i_eq, not_and, not_or, ne_eq, il_0, il_1, il_2, il_3, il_4, il_5, il_6, il_7, il_8, il_9, il_10, il_14, il_15, il_19, il_20, il_24, il_30, il_31, il_44, il_48, il_49, il_52, il_57, il_59, il_60, il_70, il_99, il_100, il_103, il_108, il_114, il_m1, il_m2, il_m3, il_m4, il_m9, il_m10, il_m100] at *) <;> omega
        refine x_aload_n (pc := 122) (i := 0) dX8_season_122 rfl rfl ?_
        refine x_aload_n (pc := 123) (i := 0) dX8_season_123 rfl rfl ?_
        refine x_getR (pc := 124) hS fX8_16 dX8_season_124 rfl rfl ?_
        refine x_iload (pc := 127) dX8_season_127 rfl ?_
        refine x_iconst (pc := 129) (v := 2) dX8_season_129 (by decide) ?_
        refine x_iload (pc := 130) dX8_season_130 rfl ?_
        refine x_imul (pc := 132) dX8_season_132 ?_
        refine x_iadd (pc := 133) dX8_season_133 ?_
        rw [i2, nI_add]
        refine x_aldN (pc := 134) hS dX8_season_134 rfl (by omega) (by decide) ?_
        rw [aA]
        refine x_aload_n (pc := 135) (i := 0) dX8_season_135 rfl rfl ?_
        refine x_getR (pc := 136) hS fX8_16 dX8_season_136 rfl rfl ?_
        refine x_iload (pc := 139) dX8_season_139 rfl ?_
        refine x_iconst (pc := 141) (v := 2) dX8_season_141 (by decide) ?_
        refine x_iload (pc := 142) dX8_season_142 rfl ?_
        refine x_imul (pc := 144) dX8_season_144 ?_
        refine x_iadd (pc := 145) dX8_season_145 ?_
        refine x_iconst (pc := 146) (v := 1) dX8_season_146 (by decide) ?_
        refine x_iadd (pc := 147) dX8_season_147 ?_
        rw [i2, nI_add, nI_1]
        refine x_aldN (pc := 148) hS dX8_season_148 rfl (by omega) (by decide) ?_
        rw [aA]
        refine x_vs (pc := 149) (As := [_, _]) rfl hS lX8_190 dX8_season_149 rfl rfl (Nat.le_of_ble_eq_true rfl) (c_X8_refusesPair hS) ?_
        rintro _ _ ⟨rfl, hq⟩
        obtain rfl := hq.symm
        refine x_pushI ?_
        rw [a5, a6]
        refine x_istore (pc := 152) (L' := [_, _, _, _, _, _, _, _, _, _]) dX8_season_152 (by decide) rfl ?_
        refine x_iload (pc := 154) dX8_season_154 rfl ?_
        refine x_if_eq (pc := 156) (tgt := 162) dX8_season_156 (by decide) (fun h156 => ?_) (fun h156 => ?_)
        · refine x_iinc (pc := 162) (L' := [_, _, _, _, _, _, _, _, _, _]) dX8_season_162 (by decide) rfl (by first | exact nI_inc _ | rfl) rfl ?_
          refine x_goto (pc := 165) (tgt := 115) dX8_season_165 (by decide) ?_
          refine mJ.weak (wk_v (wk_v (wk_v (wk_v (wk_v (wk_v (wk_v (wk_v (wk_v (wk_n wk_0)))))))))) (ih (k + 1) (by omega) (by omega) ?_)
          show (if rfN (rfM w (60 * s + i0)) k = 0 then rfM w (60 * s + i0) k else rfN (rfM w (60 * s + i0)) k) = 0
          rw [if_pos hr]; exact h156
        · refine x_iload (pc := 159) dX8_season_159 rfl ?_
          refine x_ri (pc := 161) dX8_season_161 rfl rfl ?_
          have e9 := rfN_stop (f := rfM w (60 * s + i0)) hr h156 hkn
          exact ⟨by rw [e9, if_neg h156], hS, gA.up (by decide) (by decide), a0, fun z => absurd (e9.symm.trans z) h156⟩
  refine x_aload_n (pc := 69) (i := 0) dX8_season_69 rfl rfl ?_
  refine x_iload_n (pc := 70) (i := 1) dX8_season_70 rfl rfl ?_
  refine x_iload_n (pc := 71) (i := 2) dX8_season_71 rfl rfl ?_
  refine x_iload_n (pc := 72) (i := 3) dX8_season_72 rfl rfl ?_
  refine x_iconst (pc := 73) (v := 2) dX8_season_73 (by decide) ?_
  refine x_iload (pc := 74) dX8_season_74 rfl ?_
  refine x_imul (pc := 76) dX8_season_76 ?_
  refine x_vs (pc := 77) (As := [_, _, _, _]) rfl hS lX8_108 dX8_season_77 rfl rfl (Nat.le_of_ble_eq_true rfl) (c_X8_against hS hs) ?_
  rintro _ _ ⟨rfl, hq⟩
  obtain rfl := hq.symm
  refine x_pushI ?_
  rw [arr_setF, arr_setF, ha]
  refine x_istore (pc := 80) (L' := [_, _, _, _, _, _, _, _, _, _]) dX8_season_80 (by decide) rfl ?_
  refine x_iload (pc := 82) dX8_season_82 rfl ?_
  refine x_if_eq (pc := 84) (tgt := 94) dX8_season_84 (by decide) (fun h84 => ?_) (fun h84 => absurd h84 (by exact not_not_intro rfl))
  refine x_aload_n (pc := 94) (i := 0) dX8_season_94 rfl rfl ?_
  refine x_getI (pc := 95) hS fX8_92 dX8_season_95 rfl rfl ?_
  rw [fld_setF_k (by decide)]
  refine x_if_ne (pc := 98) (tgt := 104) dX8_season_98 (by decide) (fun h98 => ?_) (fun h98 => absurd h98 (by exact h0))
  refine x_bipush (pc := 104) (v := 60) dX8_season_104 (by decide) ?_
  refine x_iload_n (pc := 106) (i := 1) dX8_season_106 rfl rfl ?_
  refine x_imul (pc := 107) dX8_season_107 ?_
  refine x_iload_n (pc := 108) (i := 3) dX8_season_108 rfl rfl ?_
  refine x_iadd (pc := 109) dX8_season_109 ?_
  rw [show (60 : Int32) * nI s = nI (60 * s) from pk_mul 60 s, nI_add]
  refine x_istore (pc := 110) (L' := [_, _, _, _, _, _, _, _, _, _]) dX8_season_110 (by decide) rfl ?_
  refine x_iconst (pc := 112) (v := 0) dX8_season_112 (by decide) ?_
  refine x_istore (pc := 113) (L' := [_, _, _, _, _, _, _, _, _, _]) dX8_season_113 (by decide) rfl ?_
  exact lp (n + 1) 0 (by omega) (by omega) rfl

