-- what was full: rooms, kinds
def mWk : List Value → List Value → Prop
  | [], [] => True
  | .null :: l, _ :: l' => mWk l l'
  | v :: l, v' :: l' => v = v' ∧ mWk l l'
  | _, _ => False
theorem wk_0 : mWk [] [] := trivial
theorem wk_n {x : Value} {l l' : List Value} (h : mWk l l') : mWk (.null :: l) (x :: l') := h
theorem wk_v {x : Value} {l l' : List Value} (h : mWk l l') : mWk (x :: l) (x :: l') := by
  cases x <;> first | exact h | exact ⟨rfl, h⟩
theorem mWk_get : ∀ {L L' : List Value} {i : Nat} {v : Value}, mWk L L' → L[i]? = some v → v ≠ .null → L'[i]? = some v
  | [], [], i, v, _, h, _ => by simp at h
  | [], _ :: _, i, v, hk, h, _ => by simp at h
  | x :: l, [], i, v, hk, h, _ => by cases x <;> exact absurd hk (by simp [mWk])
  | x :: l, x' :: l', 0, v, hk, h, hv => by
    simp at h
    subst h
    cases x <;> first | exact absurd rfl hv | (have := hk.1; simp [this])
  | x :: l, x' :: l', i + 1, v, hk, h, hv => by
    have h2 : mWk l l' := by cases x <;> first | exact hk | exact hk.2
    simpa using mWk_get h2 (by simpa using h) hv
theorem mJ.weak {X : mX} {d : Nat} {M : mM} {Q : Option Value → mW → Prop} {pc : Nat} {L L' st : List Value} {w : mW} (h : mWk L L') (k : mJ X d M Q pc L st w) : mJ X d M Q pc L' st w :=
  fun p l e R s m args below meth c D cy as A H0 cells slots Z hC hX hE H locs ls hP hD hS hl => k p l e R s m args below meth c D cy as A H0 cells slots Z hC hX hE H locs ls hP hD hS ⟨hl.1, hl.2.1, fun i v hi hv => hl.2.2 i v (mWk_get h hi hv) hv⟩
def soB (h lo fu : Nat → Int32) : Nat → Bool
  | 0 => true
  | k + 1 => soB h lo fu k && decide ((if h k ≤ lo k then (1 : Int32) else 0) = fu k)
theorem soB_f {h lo fu : Nat → Int32} {k : Nat} (hk : ¬ (if h k ≤ lo k then (1 : Int32) else 0) = fu k) : ∀ {n : Nat}, k < n → soB h lo fu n = false
  | 0, hn => absurd hn (Nat.not_lt_zero _)
  | n + 1, hn => by
    unfold soB
    by_cases e : k = n
    · subst e; simp [hk]
    · rw [soB_f hk (by omega)]; rfl
theorem soB_t {h lo fu : Nat → Int32} {k : Nat} (h0 : soB h lo fu k = true) (hk : (if h k ≤ lo k then (1 : Int32) else 0) = fu k) : soB h lo fu (k + 1) = true := by
  unfold soB; rw [h0]; simp [hk]
theorem soB_c {h h' lo fu : Nat → Int32} : ∀ {n : Nat}, (∀ q, q < n → h q = h' q) → soB h lo fu n = soB h' lo fu n
  | 0, _ => rfl
  | n + 1, e => by unfold soB; rw [soB_c (fun q hq => e q (by omega)), e n (by omega)]
abbrev hX (w : mW) (b holds : Int32) (q : Nat) : Int32 := if arr w 41 q = b then holds else if 0 ≤ arr w 41 q ∧ arr w 41 q < fld w 7 0 then holdsE (arr w 8 (arr w 41 q).toNatClampNeg) (arr w 9 (arr w 41 q).toNatClampNeg) else 0
theorem c_X3_areSo {d : Nat} {w : mW} {b holds : Int32} {n nb : Nat} (hS : Shape w) (tn : (fld w 40 3).toInt = (n : Int)) (hn : n ≤ 8) (tb : (fld w 7 0).toInt = (nb : Int)) (hnb : nb ≤ 5) : mC (d + 2) kX3_areSo [.ref 40, .ref 7, .int b, .int holds] w (fun r w' => r = some (.int (b2 (soB (hX w b holds) (arr w 42) (arr w 43) n = true))) ∧ w' = w) := by
  have lp : ∀ (m k : Nat), k ≤ n → n < k + m → soB (hX w b holds) (arr w 42) (arr w 43) k = true → mJ mX0 (d + 2) kX3_areSo (fun r w' => r = some (.int (b2 (soB (hX w b holds) (arr w 42) (arr w 43) n = true))) ∧ w' = w) 3 [.ref 40, .ref 7, .int b, .int holds, .int (nI k), .null, .null] [] w := by
    intro m
    induction m with
    | zero => intro k h1 h2; omega
    | succ m ih =>
      intro k hk1 hk2 hso
      have tk : (nI k).toInt = (k : Int) := nI_toInt (by omega)
      by_cases hwk : arr w 41 k = b
      · have hh : hX w b holds k = holds := if_pos hwk
        refine x_iload (pc := 3) dX3_areSo_3 rfl ?_
        refine x_aload_n (pc := 5) (i := 0) dX3_areSo_5 rfl rfl ?_
        refine x_getI (pc := 6) hS fX3_21 dX3_areSo_6 rfl rfl ?_
        refine x_icmp_ge (pc := 9) (tgt := 79) dX3_areSo_9 (by decide) (fun h9 => ?_) (fun h9 => ?_)
        · refine x_iconst (pc := 79) (v := 1) dX3_areSo_79 (by decide) ?_
          refine x_ri (pc := 80) dX3_areSo_80 rfl rfl ?_
          have e := show k = n by (try simp only [b2_e0, b2_n0, Decidable.not_not] at *) <;> (try simp only [i_lt, i_le, i_eq, not_and, not_or, ne_eq, il_0, il_1, il_2, il_3, il_4, il_5, il_6, il_7, il_8, il_9, il_10, il_14, il_15, il_19, il_20, il_24, il_30, il_31, il_44, il_48, il_49, il_52, il_57, il_59, il_60, il_70, il_99, il_100, il_103, il_108, il_114, il_m1, il_m2, il_m3, il_m4, il_m9, il_m10, il_m100] at *) <;> omega
          subst e
          rw [b2_t hso]; exact ⟨rfl, rfl⟩
        · have hkn : k < n := by (try simp only [b2_e0, b2_n0, Decidable.not_not] at *) <;> (try simp only [i_lt, i_le, i_eq, not_and, not_or, ne_eq, il_0, il_1, il_2, il_3, il_4, il_5, il_6, il_7, il_8, il_9, il_10, il_14, il_15, il_19, il_20, il_24, il_30, il_31, il_44, il_48, il_49, il_52, il_57, il_59, il_60, il_70, il_99, il_100, il_103, il_108, il_114, il_m1, il_m2, il_m3, il_m4, il_m9, il_m10, il_m100] at *) <;> omega
          refine x_aload_n (pc := 12) (i := 0) dX3_areSo_12 rfl rfl ?_
          refine x_getR (pc := 13) hS fX3_11 dX3_areSo_13 rfl rfl ?_
          refine x_iload (pc := 16) dX3_areSo_16 rfl ?_
          refine x_aldN (pc := 18) hS dX3_areSo_18 rfl (by omega) (by decide) ?_
          refine x_iload_n (pc := 19) (i := 2) dX3_areSo_19 rfl rfl ?_
          refine x_icmp_ne (pc := 20) (tgt := 27) dX3_areSo_20 (by decide) (fun h20 => absurd h20 (by exact not_not_intro hwk)) (fun h20 => ?_)
          refine x_iload_n (pc := 23) (i := 3) dX3_areSo_23 rfl rfl ?_
          refine x_goto (pc := 24) (tgt := 38) dX3_areSo_24 (by decide) ?_
          refine x_istore (pc := 38) (L' := [_, _, _, _, _, _, _]) dX3_areSo_38 (by decide) rfl ?_
          refine x_iload (pc := 40) dX3_areSo_40 rfl ?_
          refine x_aload_n (pc := 42) (i := 0) dX3_areSo_42 rfl rfl ?_
          refine x_getR (pc := 43) hS fX3_15 dX3_areSo_43 rfl rfl ?_
          refine x_iload (pc := 46) dX3_areSo_46 rfl ?_
          refine x_aldN (pc := 48) hS dX3_areSo_48 rfl (by omega) (by decide) ?_
          refine x_icmp_gt (pc := 49) (tgt := 56) dX3_areSo_49 (by decide) (fun h49 => ?_) (fun h49 => ?_)
          · refine x_iconst (pc := 56) (v := 0) dX3_areSo_56 (by decide) ?_
            refine x_istore (pc := 57) (L' := [_, _, _, _, _, _, _]) dX3_areSo_57 (by decide) rfl ?_
            refine x_iload (pc := 59) dX3_areSo_59 rfl ?_
            refine x_aload_n (pc := 61) (i := 0) dX3_areSo_61 rfl rfl ?_
            refine x_getR (pc := 62) hS fX3_18 dX3_areSo_62 rfl rfl ?_
            refine x_iload (pc := 65) dX3_areSo_65 rfl ?_
            refine x_aldN (pc := 67) hS dX3_areSo_67 rfl (by omega) (by decide) ?_
            refine x_icmp_eq (pc := 68) (tgt := 73) dX3_areSo_68 (by decide) (fun h68 => ?_) (fun h68 => ?_)
            · refine x_iinc (pc := 73) (L' := [_, _, _, _, _, _, _]) dX3_areSo_73 (by decide) rfl (by first | exact nI_inc _ | rfl) rfl ?_
              refine x_goto (pc := 76) (tgt := 3) dX3_areSo_76 (by decide) ?_
              refine mJ.weak (wk_v (wk_v (wk_v (wk_v (wk_v (wk_n (wk_n wk_0))))))) (ih (k + 1) (by omega) (by omega) (soB_t hso ?_))
              rw [hh]
              first | (rw [if_pos (by (try simp only [b2_e0, b2_n0, Decidable.not_not] at *) <;> (try simp only [i_lt, i_le, i_eq, not_and, not_or, ne_eq, il_0, il_1, il_2, il_3, il_4, il_5, il_6, il_7, il_8, il_9, il_10, il_14, il_15, il_19, il_20, il_24, il_30, il_31, il_44, il_48, il_49, il_52, il_57, il_59, il_60, il_70, il_99, il_100, il_103, il_108, il_114, il_m1, il_m2, il_m3, il_m4, il_m9, il_m10, il_m100] at *) <;> omega)]; exact h68) | (rw [if_neg (by (try simp only [b2_e0, b2_n0, Decidable.not_not] at *) <;> (try simp only [i_lt, i_le, i_eq, not_and, not_or, ne_eq, il_0, il_1, il_2, il_3, il_4, il_5, il_6, il_7, il_8, il_9, il_10, il_14, il_15, il_19, il_20, il_24, il_30, il_31, il_44, il_48, il_49, il_52, il_57, il_59, il_60, il_70, il_99, il_100, il_103, il_108, il_114, il_m1, il_m2, il_m3, il_m4, il_m9, il_m10, il_m100] at *) <;> omega)]; exact h68)
            · refine x_iconst (pc := 71) (v := 0) dX3_areSo_71 (by decide) ?_
              refine x_ri (pc := 72) dX3_areSo_72 rfl rfl ?_
              rw [b2_f (by rw [soB_f (k := k) (by rw [hh]; first | (rw [if_pos (by (try simp only [b2_e0, b2_n0, Decidable.not_not] at *) <;> (try simp only [i_lt, i_le, i_eq, not_and, not_or, ne_eq, il_0, il_1, il_2, il_3, il_4, il_5, il_6, il_7, il_8, il_9, il_10, il_14, il_15, il_19, il_20, il_24, il_30, il_31, il_44, il_48, il_49, il_52, il_57, il_59, il_60, il_70, il_99, il_100, il_103, il_108, il_114, il_m1, il_m2, il_m3, il_m4, il_m9, il_m10, il_m100] at *) <;> omega)]; exact h68) | (rw [if_neg (by (try simp only [b2_e0, b2_n0, Decidable.not_not] at *) <;> (try simp only [i_lt, i_le, i_eq, not_and, not_or, ne_eq, il_0, il_1, il_2, il_3, il_4, il_5, il_6, il_7, il_8, il_9, il_10, il_14, il_15, il_19, il_20, il_24, il_30, il_31, il_44, il_48, il_49, il_52, il_57, il_59, il_60, il_70, il_99, il_100, il_103, il_108, il_114, il_m1, il_m2, il_m3, il_m4, il_m9, il_m10, il_m100] at *) <;> omega)]; exact h68)) hkn]; decide)]; exact ⟨rfl, rfl⟩
          · refine x_iconst (pc := 52) (v := 1) dX3_areSo_52 (by decide) ?_
            refine x_goto (pc := 53) (tgt := 57) dX3_areSo_53 (by decide) ?_
            refine x_istore (pc := 57) (L' := [_, _, _, _, _, _, _]) dX3_areSo_57 (by decide) rfl ?_
            refine x_iload (pc := 59) dX3_areSo_59 rfl ?_
            refine x_aload_n (pc := 61) (i := 0) dX3_areSo_61 rfl rfl ?_
            refine x_getR (pc := 62) hS fX3_18 dX3_areSo_62 rfl rfl ?_
            refine x_iload (pc := 65) dX3_areSo_65 rfl ?_
            refine x_aldN (pc := 67) hS dX3_areSo_67 rfl (by omega) (by decide) ?_
            refine x_icmp_eq (pc := 68) (tgt := 73) dX3_areSo_68 (by decide) (fun h68 => ?_) (fun h68 => ?_)
            · refine x_iinc (pc := 73) (L' := [_, _, _, _, _, _, _]) dX3_areSo_73 (by decide) rfl (by first | exact nI_inc _ | rfl) rfl ?_
              refine x_goto (pc := 76) (tgt := 3) dX3_areSo_76 (by decide) ?_
              refine mJ.weak (wk_v (wk_v (wk_v (wk_v (wk_v (wk_n (wk_n wk_0))))))) (ih (k + 1) (by omega) (by omega) (soB_t hso ?_))
              rw [hh]
              first | (rw [if_pos (by (try simp only [b2_e0, b2_n0, Decidable.not_not] at *) <;> (try simp only [i_lt, i_le, i_eq, not_and, not_or, ne_eq, il_0, il_1, il_2, il_3, il_4, il_5, il_6, il_7, il_8, il_9, il_10, il_14, il_15, il_19, il_20, il_24, il_30, il_31, il_44, il_48, il_49, il_52, il_57, il_59, il_60, il_70, il_99, il_100, il_103, il_108, il_114, il_m1, il_m2, il_m3, il_m4, il_m9, il_m10, il_m100] at *) <;> omega)]; exact h68) | (rw [if_neg (by (try simp only [b2_e0, b2_n0, Decidable.not_not] at *) <;> (try simp only [i_lt, i_le, i_eq, not_and, not_or, ne_eq, il_0, il_1, il_2, il_3, il_4, il_5, il_6, il_7, il_8, il_9, il_10, il_14, il_15, il_19, il_20, il_24, il_30, il_31, il_44, il_48, il_49, il_52, il_57, il_59, il_60, il_70, il_99, il_100, il_103, il_108, il_114, il_m1, il_m2, il_m3, il_m4, il_m9, il_m10, il_m100] at *) <;> omega)]; exact h68)
            · refine x_iconst (pc := 71) (v := 0) dX3_areSo_71 (by decide) ?_
              refine x_ri (pc := 72) dX3_areSo_72 rfl rfl ?_
              rw [b2_f (by rw [soB_f (k := k) (by rw [hh]; first | (rw [if_pos (by (try simp only [b2_e0, b2_n0, Decidable.not_not] at *) <;> (try simp only [i_lt, i_le, i_eq, not_and, not_or, ne_eq, il_0, il_1, il_2, il_3, il_4, il_5, il_6, il_7, il_8, il_9, il_10, il_14, il_15, il_19, il_20, il_24, il_30, il_31, il_44, il_48, il_49, il_52, il_57, il_59, il_60, il_70, il_99, il_100, il_103, il_108, il_114, il_m1, il_m2, il_m3, il_m4, il_m9, il_m10, il_m100] at *) <;> omega)]; exact h68) | (rw [if_neg (by (try simp only [b2_e0, b2_n0, Decidable.not_not] at *) <;> (try simp only [i_lt, i_le, i_eq, not_and, not_or, ne_eq, il_0, il_1, il_2, il_3, il_4, il_5, il_6, il_7, il_8, il_9, il_10, il_14, il_15, il_19, il_20, il_24, il_30, il_31, il_44, il_48, il_49, il_52, il_57, il_59, il_60, il_70, il_99, il_100, il_103, il_108, il_114, il_m1, il_m2, il_m3, il_m4, il_m9, il_m10, il_m100] at *) <;> omega)]; exact h68)) hkn]; decide)]; exact ⟨rfl, rfl⟩
      · have hh : hX w b holds k = if 0 ≤ arr w 41 k ∧ arr w 41 k < fld w 7 0 then holdsE (arr w 8 (arr w 41 k).toNatClampNeg) (arr w 9 (arr w 41 k).toNatClampNeg) else 0 := if_neg hwk
        refine x_iload (pc := 3) dX3_areSo_3 rfl ?_
        refine x_aload_n (pc := 5) (i := 0) dX3_areSo_5 rfl rfl ?_
        refine x_getI (pc := 6) hS fX3_21 dX3_areSo_6 rfl rfl ?_
        refine x_icmp_ge (pc := 9) (tgt := 79) dX3_areSo_9 (by decide) (fun h9 => ?_) (fun h9 => ?_)
        · refine x_iconst (pc := 79) (v := 1) dX3_areSo_79 (by decide) ?_
          refine x_ri (pc := 80) dX3_areSo_80 rfl rfl ?_
          have e := show k = n by (try simp only [b2_e0, b2_n0, Decidable.not_not] at *) <;> (try simp only [i_lt, i_le, i_eq, not_and, not_or, ne_eq, il_0, il_1, il_2, il_3, il_4, il_5, il_6, il_7, il_8, il_9, il_10, il_14, il_15, il_19, il_20, il_24, il_30, il_31, il_44, il_48, il_49, il_52, il_57, il_59, il_60, il_70, il_99, il_100, il_103, il_108, il_114, il_m1, il_m2, il_m3, il_m4, il_m9, il_m10, il_m100] at *) <;> omega
          subst e
          rw [b2_t hso]; exact ⟨rfl, rfl⟩
        · have hkn : k < n := by (try simp only [b2_e0, b2_n0, Decidable.not_not] at *) <;> (try simp only [i_lt, i_le, i_eq, not_and, not_or, ne_eq, il_0, il_1, il_2, il_3, il_4, il_5, il_6, il_7, il_8, il_9, il_10, il_14, il_15, il_19, il_20, il_24, il_30, il_31, il_44, il_48, il_49, il_52, il_57, il_59, il_60, il_70, il_99, il_100, il_103, il_108, il_114, il_m1, il_m2, il_m3, il_m4, il_m9, il_m10, il_m100] at *) <;> omega
          refine x_aload_n (pc := 12) (i := 0) dX3_areSo_12 rfl rfl ?_
          refine x_getR (pc := 13) hS fX3_11 dX3_areSo_13 rfl rfl ?_
          refine x_iload (pc := 16) dX3_areSo_16 rfl ?_
          refine x_aldN (pc := 18) hS dX3_areSo_18 rfl (by omega) (by decide) ?_
          refine x_iload_n (pc := 19) (i := 2) dX3_areSo_19 rfl rfl ?_
          refine x_icmp_ne (pc := 20) (tgt := 27) dX3_areSo_20 (by decide) (fun h20 => ?_) (fun h20 => absurd h20 (by exact hwk))
          refine x_aload_n (pc := 27) (i := 1) dX3_areSo_27 rfl rfl ?_
          refine x_aload_n (pc := 28) (i := 0) dX3_areSo_28 rfl rfl ?_
          refine x_getR (pc := 29) hS fX3_11 dX3_areSo_29 rfl rfl ?_
          refine x_iload (pc := 32) dX3_areSo_32 rfl ?_
          refine x_aldN (pc := 34) hS dX3_areSo_34 rfl (by omega) (by decide) ?_
          refine x_vs (pc := 35) (As := [_]) rfl hS lX3_29 dX3_areSo_35 rfl rfl (Nat.le_of_ble_eq_true rfl) (c_X0_holdsOf_7 hS tb hnb) ?_
          rintro _ _ ⟨rfl, hq⟩
          obtain rfl := hq.symm
          refine x_pushI ?_
          rw [← hh]
          refine x_istore (pc := 38) (L' := [_, _, _, _, _, _, _]) dX3_areSo_38 (by decide) rfl ?_
          refine x_iload (pc := 40) dX3_areSo_40 rfl ?_
          refine x_aload_n (pc := 42) (i := 0) dX3_areSo_42 rfl rfl ?_
          refine x_getR (pc := 43) hS fX3_15 dX3_areSo_43 rfl rfl ?_
          refine x_iload (pc := 46) dX3_areSo_46 rfl ?_
          refine x_aldN (pc := 48) hS dX3_areSo_48 rfl (by omega) (by decide) ?_
          refine x_icmp_gt (pc := 49) (tgt := 56) dX3_areSo_49 (by decide) (fun h49 => ?_) (fun h49 => ?_)
          · refine x_iconst (pc := 56) (v := 0) dX3_areSo_56 (by decide) ?_
            refine x_istore (pc := 57) (L' := [_, _, _, _, _, _, _]) dX3_areSo_57 (by decide) rfl ?_
            refine x_iload (pc := 59) dX3_areSo_59 rfl ?_
            refine x_aload_n (pc := 61) (i := 0) dX3_areSo_61 rfl rfl ?_
            refine x_getR (pc := 62) hS fX3_18 dX3_areSo_62 rfl rfl ?_
            refine x_iload (pc := 65) dX3_areSo_65 rfl ?_
            refine x_aldN (pc := 67) hS dX3_areSo_67 rfl (by omega) (by decide) ?_
            refine x_icmp_eq (pc := 68) (tgt := 73) dX3_areSo_68 (by decide) (fun h68 => ?_) (fun h68 => ?_)
            · refine x_iinc (pc := 73) (L' := [_, _, _, _, _, _, _]) dX3_areSo_73 (by decide) rfl (by first | exact nI_inc _ | rfl) rfl ?_
              refine x_goto (pc := 76) (tgt := 3) dX3_areSo_76 (by decide) ?_
              refine mJ.weak (wk_v (wk_v (wk_v (wk_v (wk_v (wk_n (wk_n wk_0))))))) (ih (k + 1) (by omega) (by omega) (soB_t hso ?_))
              first | (rw [if_pos (by (try simp only [b2_e0, b2_n0, Decidable.not_not] at *) <;> (try simp only [i_lt, i_le, i_eq, not_and, not_or, ne_eq, il_0, il_1, il_2, il_3, il_4, il_5, il_6, il_7, il_8, il_9, il_10, il_14, il_15, il_19, il_20, il_24, il_30, il_31, il_44, il_48, il_49, il_52, il_57, il_59, il_60, il_70, il_99, il_100, il_103, il_108, il_114, il_m1, il_m2, il_m3, il_m4, il_m9, il_m10, il_m100] at *) <;> omega)]; exact h68) | (rw [if_neg (by (try simp only [b2_e0, b2_n0, Decidable.not_not] at *) <;> (try simp only [i_lt, i_le, i_eq, not_and, not_or, ne_eq, il_0, il_1, il_2, il_3, il_4, il_5, il_6, il_7, il_8, il_9, il_10, il_14, il_15, il_19, il_20, il_24, il_30, il_31, il_44, il_48, il_49, il_52, il_57, il_59, il_60, il_70, il_99, il_100, il_103, il_108, il_114, il_m1, il_m2, il_m3, il_m4, il_m9, il_m10, il_m100] at *) <;> omega)]; exact h68)
            · refine x_iconst (pc := 71) (v := 0) dX3_areSo_71 (by decide) ?_
              refine x_ri (pc := 72) dX3_areSo_72 rfl rfl ?_
              rw [b2_f (by rw [soB_f (k := k) (by first | (rw [if_pos (by (try simp only [b2_e0, b2_n0, Decidable.not_not] at *) <;> (try simp only [i_lt, i_le, i_eq, not_and, not_or, ne_eq, il_0, il_1, il_2, il_3, il_4, il_5, il_6, il_7, il_8, il_9, il_10, il_14, il_15, il_19, il_20, il_24, il_30, il_31, il_44, il_48, il_49, il_52, il_57, il_59, il_60, il_70, il_99, il_100, il_103, il_108, il_114, il_m1, il_m2, il_m3, il_m4, il_m9, il_m10, il_m100] at *) <;> omega)]; exact h68) | (rw [if_neg (by (try simp only [b2_e0, b2_n0, Decidable.not_not] at *) <;> (try simp only [i_lt, i_le, i_eq, not_and, not_or, ne_eq, il_0, il_1, il_2, il_3, il_4, il_5, il_6, il_7, il_8, il_9, il_10, il_14, il_15, il_19, il_20, il_24, il_30, il_31, il_44, il_48, il_49, il_52, il_57, il_59, il_60, il_70, il_99, il_100, il_103, il_108, il_114, il_m1, il_m2, il_m3, il_m4, il_m9, il_m10, il_m100] at *) <;> omega)]; exact h68)) hkn]; decide)]; exact ⟨rfl, rfl⟩
          · refine x_iconst (pc := 52) (v := 1) dX3_areSo_52 (by decide) ?_
            refine x_goto (pc := 53) (tgt := 57) dX3_areSo_53 (by decide) ?_
            refine x_istore (pc := 57) (L' := [_, _, _, _, _, _, _]) dX3_areSo_57 (by decide) rfl ?_
            refine x_iload (pc := 59) dX3_areSo_59 rfl ?_
            refine x_aload_n (pc := 61) (i := 0) dX3_areSo_61 rfl rfl ?_
            refine x_getR (pc := 62) hS fX3_18 dX3_areSo_62 rfl rfl ?_
            refine x_iload (pc := 65) dX3_areSo_65 rfl ?_
            refine x_aldN (pc := 67) hS dX3_areSo_67 rfl (by omega) (by decide) ?_
            refine x_icmp_eq (pc := 68) (tgt := 73) dX3_areSo_68 (by decide) (fun h68 => ?_) (fun h68 => ?_)
            · refine x_iinc (pc := 73) (L' := [_, _, _, _, _, _, _]) dX3_areSo_73 (by decide) rfl (by first | exact nI_inc _ | rfl) rfl ?_
              refine x_goto (pc := 76) (tgt := 3) dX3_areSo_76 (by decide) ?_
              refine mJ.weak (wk_v (wk_v (wk_v (wk_v (wk_v (wk_n (wk_n wk_0))))))) (ih (k + 1) (by omega) (by omega) (soB_t hso ?_))
              first | (rw [if_pos (by (try simp only [b2_e0, b2_n0, Decidable.not_not] at *) <;> (try simp only [i_lt, i_le, i_eq, not_and, not_or, ne_eq, il_0, il_1, il_2, il_3, il_4, il_5, il_6, il_7, il_8, il_9, il_10, il_14, il_15, il_19, il_20, il_24, il_30, il_31, il_44, il_48, il_49, il_52, il_57, il_59, il_60, il_70, il_99, il_100, il_103, il_108, il_114, il_m1, il_m2, il_m3, il_m4, il_m9, il_m10, il_m100] at *) <;> omega)]; exact h68) | (rw [if_neg (by (try simp only [b2_e0, b2_n0, Decidable.not_not] at *) <;> (try simp only [i_lt, i_le, i_eq, not_and, not_or, ne_eq, il_0, il_1, il_2, il_3, il_4, il_5, il_6, il_7, il_8, il_9, il_10, il_14, il_15, il_19, il_20, il_24, il_30, il_31, il_44, il_48, il_49, il_52, il_57, il_59, il_60, il_70, il_99, il_100, il_103, il_108, il_114, il_m1, il_m2, il_m3, il_m4, il_m9, il_m10, il_m100] at *) <;> omega)]; exact h68)
            · refine x_iconst (pc := 71) (v := 0) dX3_areSo_71 (by decide) ?_
              refine x_ri (pc := 72) dX3_areSo_72 rfl rfl ?_
              rw [b2_f (by rw [soB_f (k := k) (by first | (rw [if_pos (by (try simp only [b2_e0, b2_n0, Decidable.not_not] at *) <;> (try simp only [i_lt, i_le, i_eq, not_and, not_or, ne_eq, il_0, il_1, il_2, il_3, il_4, il_5, il_6, il_7, il_8, il_9, il_10, il_14, il_15, il_19, il_20, il_24, il_30, il_31, il_44, il_48, il_49, il_52, il_57, il_59, il_60, il_70, il_99, il_100, il_103, il_108, il_114, il_m1, il_m2, il_m3, il_m4, il_m9, il_m10, il_m100] at *) <;> omega)]; exact h68) | (rw [if_neg (by (try simp only [b2_e0, b2_n0, Decidable.not_not] at *) <;> (try simp only [i_lt, i_le, i_eq, not_and, not_or, ne_eq, il_0, il_1, il_2, il_3, il_4, il_5, il_6, il_7, il_8, il_9, il_10, il_14, il_15, il_19, il_20, il_24, il_30, il_31, il_44, il_48, il_49, il_52, il_57, il_59, il_60, il_70, il_99, il_100, il_103, il_108, il_114, il_m1, il_m2, il_m3, il_m4, il_m9, il_m10, il_m100] at *) <;> omega)]; exact h68)) hkn]; decide)]; exact ⟨rfl, rfl⟩
  refine mC.of (L := [_, _, _, _, _, _, _]) okX3_areSo 3 rfl rfl ?_
  refine x_iconst (pc := 0) (v := 0) dX3_areSo_0 (by decide) ?_
  refine x_istore (pc := 1) (L' := [_, _, _, _, _, _, _]) dX3_areSo_1 (by decide) rfl ?_
  exact lp (n + 1) 0 (by omega) (by omega) rfl

