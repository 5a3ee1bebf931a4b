-- lain: loading, searching; the reference's rows
theorem c_X2_load {d : Nat} {w : mW} {k i n nw : Nat} (hS0 : Shape w) (hk : k < 4) (hsz : arr w 3 k = nI n) (hn : n ≤ 60) (hi : i + nw ≤ n) (hnw : nw ≤ 5) : mC (d + 3) kX2_load [.ref 34, .ref 1, .int (nI k), .int (nI i), .int (nI nw)] w (fun r w' => r = none ∧ w' = setA w 35 (tkI nw (fun t => arr w 4 (60 * k + (i + t))) (arr w 35))) := by
  have tw : (nI nw).toInt = (nw : Int) := nI_toInt (by omega)
  have lp : ∀ (m t : Nat), t ≤ nw → nw < t + m → mJ mX0 (d + 3) kX2_load (fun r w' => r = none ∧ w' = setA w 35 (tkI nw (fun t => arr w 4 (60 * k + (i + t))) (arr w 35))) 3 [.ref 34, .ref 1, .int (nI k), .int (nI i), .int (nI nw), .int (nI t)] [] (setA w 35 (tkI t (fun t => arr w 4 (60 * k + (i + t))) (arr w 35))) := by
    intro m
    induction m with
    | zero => intro t h1 h2; omega
    | succ m ih =>
      intro t hk1 hk2
      have tk : (nI t).toInt = (t : Int) := nI_toInt (by omega)
      have hS := hS0.stA 35 (tkI t (fun t => arr w 4 (60 * k + (i + t))) (arr w 35))
      refine x_iload (pc := 3) dX2_load_3 rfl ?_
      refine x_iload (pc := 5) dX2_load_5 rfl ?_
      refine x_icmp_ge (pc := 7) (tgt := 38) dX2_load_7 (by decide) (fun h7 => ?_) (fun h7 => ?_)
      · refine x_rv (pc := 38) dX2_load_38 rfl ?_
        exact ⟨rfl, by rw [show t = nw by (try simp only [b2_e0, b2_n0, Decidable.not_not] at *) <;> (try simp only [i_lt, i_le, i_eq, not_and, not_or, ne_eq, il_0, il_1, il_2, il_3, il_4, il_5, il_6, il_7, il_8, il_9, il_10, il_14, il_15, il_19, il_20, il_24, il_30, il_31, il_44, il_48, il_49, il_52, il_57, il_59, il_60, il_70, il_99, il_100, il_103, il_108, il_114, il_m1, il_m2, il_m3, il_m4, il_m9, il_m10, il_m100] at *) <;> omega]⟩
      · refine x_iload (pc := 10) dX2_load_10 rfl ?_
        refine x_iconst (pc := 12) (v := 5) dX2_load_12 (by decide) ?_
        refine x_icmp_ge (pc := 13) (tgt := 38) dX2_load_13 (by decide) (fun h13 => absurd h13 (by (try simp only [b2_e0, b2_n0, Decidable.not_not] at *) <;> (try simp only [i_lt, i_le, i_eq, not_and, not_or, ne_eq, il_0, il_1, il_2, il_3, il_4, il_5, il_6, il_7, il_8, il_9, il_10, il_14, il_15, il_19, il_20, il_24, il_30, il_31, il_44, il_48, il_49, il_52, il_57, il_59, il_60, il_70, il_99, il_100, il_103, il_108, il_114, il_m1, il_m2, il_m3, il_m4, il_m9, il_m10, il_m100] at *) <;> omega)) (fun h13 => ?_)
        refine x_aload_n (pc := 16) (i := 0) dX2_load_16 rfl rfl ?_
        refine x_getR (pc := 17) hS fX2_9 dX2_load_17 rfl rfl ?_
        refine x_iload (pc := 20) dX2_load_20 rfl ?_
        refine x_aload_n (pc := 22) (i := 1) dX2_load_22 rfl rfl ?_
        refine x_iload_n (pc := 23) (i := 2) dX2_load_23 rfl rfl ?_
        refine x_iload_n (pc := 24) (i := 3) dX2_load_24 rfl rfl ?_
        refine x_iload (pc := 25) dX2_load_25 rfl ?_
        refine x_iadd (pc := 27) dX2_load_27 ?_
        rw [nI_add]
        refine x_vs (pc := 28) (As := [_, _]) rfl hS lX2_27 dX2_load_28 rfl rfl (Nat.le_of_ble_eq_true rfl) (c_X5_valueAt (n := n) hS hk (by rw [arr_setA_a (by decide)]; exact hsz) hn (by (try simp only [b2_e0, b2_n0, Decidable.not_not] at *) <;> (try simp only [i_lt, i_le, i_eq, not_and, not_or, ne_eq, il_0, il_1, il_2, il_3, il_4, il_5, il_6, il_7, il_8, il_9, il_10, il_14, il_15, il_19, il_20, il_24, il_30, il_31, il_44, il_48, il_49, il_52, il_57, il_59, il_60, il_70, il_99, il_100, il_103, il_108, il_114, il_m1, il_m2, il_m3, il_m4, il_m9, il_m10, il_m100] at *) <;> omega)) ?_
        rintro _ _ ⟨rfl, hq⟩
        obtain rfl := hq.symm
        refine x_pushI ?_
        rw [arr_setA_a (by decide)]
        refine x_astN (pc := 31) hS dX2_load_31 rfl (by (try simp only [b2_e0, b2_n0, Decidable.not_not] at *) <;> (try simp only [i_lt, i_le, i_eq, not_and, not_or, ne_eq, il_0, il_1, il_2, il_3, il_4, il_5, il_6, il_7, il_8, il_9, il_10, il_14, il_15, il_19, il_20, il_24, il_30, il_31, il_44, il_48, il_49, il_52, il_57, il_59, il_60, il_70, il_99, il_100, il_103, il_108, il_114, il_m1, il_m2, il_m3, il_m4, il_m9, il_m10, il_m100] at *) <;> omega) (by decide) (fun hS => ?_)
        rw [arr_setA hS0 rfl, setA_setA, tkI_s (r := fun t => arr w 4 (60 * k + (i + t)))]
        refine x_iinc (pc := 32) (L' := [_, _, _, _, _, _]) dX2_load_32 (by decide) rfl (by first | exact nI_inc _ | rfl) rfl ?_
        refine x_goto (pc := 35) (tgt := 3) dX2_load_35 (by decide) ?_
        exact ih (t + 1) (by (try simp only [b2_e0, b2_n0, Decidable.not_not] at *) <;> (try simp only [i_lt, i_le, i_eq, not_and, not_or, ne_eq, il_0, il_1, il_2, il_3, il_4, il_5, il_6, il_7, il_8, il_9, il_10, il_14, il_15, il_19, il_20, il_24, il_30, il_31, il_44, il_48, il_49, il_52, il_57, il_59, il_60, il_70, il_99, il_100, il_103, il_108, il_114, il_m1, il_m2, il_m3, il_m4, il_m9, il_m10, il_m100] at *) <;> omega) (by omega)
  have hS := hS0
  refine mC.of (L := [_, _, _, _, _, _]) okX2_load 1 rfl rfl ?_
  refine x_iconst (pc := 0) (v := 0) dX2_load_0 (by decide) ?_
  refine x_istore (pc := 1) (L' := [_, _, _, _, _, _]) dX2_load_1 (by decide) rfl ?_
  have h9 := lp (nw + 1) 0 (by omega) (by omega)
  rw [tkI_0, setA_self hS0 rfl] at h9
  exact h9
theorem fit_b2 {p : Prop} [Decidable p] : fits .boolean (.int (b2 p)) = true := by unfold b2; split <;> rfl
theorem xLW_mk {w : mW} {L T : Nat → Int32} {x : Int32} (hS : Shape w) : setF (setF (setA (setA w 38 L) 39 T) 34 5 0) 34 6 x = xLW (setF w 34 6 x) (arr w 36) (arr w 37) L T 0 := by
  unfold xLW
  rw [setA_setF _ (by decide), setA_setF _ (by decide), setA_setF _ (by decide), setA_setF _ (by decide), setA_self hS rfl, setA_self hS rfl, setF_comm _ (show (6 : Nat) ≠ 5 by decide)]
theorem c_X2_search {d : Nat} {w : mW} {nb nw : Nat} {H : Nat → Nat} {fo : Bool} {x : Int32} (hx0 : x = b2 (fo = true)) (hS0 : Shape w) (tb : (fld w 7 0).toInt = (nb : Int)) (hnb : nb ≤ 5) (tw : (fld w 7 1).toInt = (nw : Int)) (hnw : nw ≤ 5) (hH : ∀ b, b < nb → holdsE (arr w 8 b) (arr w 9 b) = nI (H b) ∧ H b ≤ 8) : mC (d + 13) kX2_search [.ref 34, .ref 7, .int x] w (fun r w' => r = none ∧ ∃ row fi left lat wy, lX nw (enum (nb + 1) (lF nb nw H (arr w 35) fo) nw 0 (fun _ => 0) (0, fun _ => 0)) wy fi ∧ w' = xLW (setF w 34 6 x) row fi left lat wy) := by
  subst hx0
  have eb := nI_ofT tb (by omega)
  have hS6 : Shape (setF w 34 6 (b2 (fo = true))) := hS0.stF rfl rfl _
  have hpw := pw_small (nb + 1) (by omega) nw hnw
  have h9 := c_X2_lay (d := d) (w := setF w 34 6 (b2 (fo = true))) (nb := nb) (nw := nw) (H := H) (fo := fo) hS6 (by rw [fld_setF_a (by decide)]; exact tb) hnb (by rw [fld_setF_a (by decide)]; exact tw) hnw (fun b hb => (hH b hb).2) (fld_setF hS0 rfl rfl _) nw 0 (d + 12) (fun _ => 0) (0, fun _ => 0) (arr w 36) (arr w 37) (tkI nb (fun b => holdsE (arr w 8 b) (arr w 9 b)) (arr w 38)) (tkI nb (fun b => nI (10 + b)) (arr w 39)) 0 (by omega) (by omega) ⟨fun i hi => absurd hi (Nat.not_lt_zero _), fun b hb => by
      unfold tkI
      rw [if_pos hb, if_pos hb]
      exact ⟨rfl, H b, (hH b hb).1, rfl⟩⟩ (fun i hi => absurd hi (Nat.not_lt_zero _)) ⟨rfl, Or.inl rfl⟩ (by show 0 + (nb + 1) ^ nw ≤ 10000; omega)
  rw [arr_setF] at h9
  have lp : ∀ (m k : Nat), k ≤ nb → nb < k + m → mJ mX0 (d + 13) kX2_search (fun r w' => r = none ∧ ∃ row fi left lat wy, lX nw (enum (nb + 1) (lF nb nw H (arr w 35) fo) nw 0 (fun _ => 0) (0, fun _ => 0)) wy fi ∧ w' = xLW (setF w 34 6 (b2 (fo = true))) row fi left lat wy) 2 [.ref 34, .ref 7, .int (b2 (fo = true)), .int (nI k)] [] (setA (setA w 38 (tkI k (fun b => holdsE (arr w 8 b) (arr w 9 b)) (arr w 38))) 39 (tkI k (fun b => nI (10 + b)) (arr w 39))) := by
    intro m
    induction m with
    | zero => intro k h1 h2; omega
    | succ m ih =>
      intro k hk1 hk2
      have tk : (nI k).toInt = (k : Int) := nI_toInt (by omega)
      have ck : (nI k).toNatClampNeg = k := nI_clamp (by omega)
      have hS := (hS0.stA 38 (tkI k (fun b => holdsE (arr w 8 b) (arr w 9 b)) (arr w 38))).stA 39 (tkI k (fun b => nI (10 + b)) (arr w 39))
      have tb' : (fld (setA (setA w 38 (tkI k (fun b => holdsE (arr w 8 b) (arr w 9 b)) (arr w 38))) 39 (tkI k (fun b => nI (10 + b)) (arr w 39))) 7 0).toInt = (nb : Int) := by rw [fld_setA, fld_setA]; exact tb
      refine x_iload_n (pc := 2) (i := 3) dX2_search_2 rfl rfl ?_
      refine x_aload_n (pc := 3) (i := 1) dX2_search_3 rfl rfl ?_
      refine x_getI (pc := 4) hS fX2_33 dX2_search_4 rfl rfl ?_
      rw [fld_setA, fld_setA]
      refine x_icmp_ge (pc := 7) (tgt := 37) dX2_search_7 (by decide) (fun h7 => ?_) (fun h7 => ?_)
      · have hkn : k = nb := by (try simp only [b2_e0, b2_n0, Decidable.not_not] at *) <;> (try simp only [i_lt, i_le, i_eq, not_and, not_or, ne_eq, il_0, il_1, il_2, il_3, il_4, il_5, il_6, il_7, il_8, il_9, il_10, il_14, il_15, il_19, il_20, il_24, il_30, il_31, il_44, il_48, il_49, il_52, il_57, il_59, il_60, il_70, il_99, il_100, il_103, il_108, il_114, il_m1, il_m2, il_m3, il_m4, il_m9, il_m10, il_m100] at *) <;> omega
        refine x_aload_n (pc := 37) (i := 0) dX2_search_37 rfl rfl ?_
        refine x_iconst (pc := 38) (v := 0) dX2_search_38 (by decide) ?_
        refine x_putI (pc := 39) hS fX2_43 dX2_search_39 rfl rfl rfl rfl (fun hS => ?_)
        refine x_aload_n (pc := 42) (i := 0) dX2_search_42 rfl rfl ?_
        refine x_iload_n (pc := 43) (i := 2) dX2_search_43 rfl rfl ?_
        refine x_putI (pc := 44) hS fX2_46 dX2_search_44 rfl rfl nar_b2 fit_b2 (fun hS => ?_)
        rw [hkn, xLW_mk hS0]
        have hS : Shape (xLW (setF w 34 6 (b2 (fo = true))) (arr w 36) (arr w 37) (tkI nb (fun b => holdsE (arr w 8 b) (arr w 9 b)) (arr w 38)) (tkI nb (fun b => nI (10 + b)) (arr w 39)) 0) := xLW_S hS6
        refine x_aload_n (pc := 47) (i := 0) dX2_search_47 rfl rfl ?_
        refine x_aload_n (pc := 48) (i := 1) dX2_search_48 rfl rfl ?_
        refine x_iconst (pc := 49) (v := 0) dX2_search_49 (by decide) ?_
        refine x_vs (pc := 50) (As := [_, _]) rfl hS lX2_50 dX2_search_50 rfl rfl (Nat.le_of_ble_eq_true rfl) h9 ?_
        rintro _ _ ⟨rfl, row', fi', wy', q1, q2, hq⟩
        obtain rfl := hq.symm
        refine x_pushV ?_
        refine x_rv (pc := 53) dX2_search_53 rfl ?_
        exact ⟨rfl, row', fi', _, _, wy', q2, rfl⟩
      · have hkn : k < nb := by (try simp only [b2_e0, b2_n0, Decidable.not_not] at *) <;> (try simp only [i_lt, i_le, i_eq, not_and, not_or, ne_eq, il_0, il_1, il_2, il_3, il_4, il_5, il_6, il_7, il_8, il_9, il_10, il_14, il_15, il_19, il_20, il_24, il_30, il_31, il_44, il_48, il_49, il_52, il_57, il_59, il_60, il_70, il_99, il_100, il_103, il_108, il_114, il_m1, il_m2, il_m3, il_m4, il_m9, il_m10, il_m100] at *) <;> omega
        refine x_aload_n (pc := 10) (i := 0) dX2_search_10 rfl rfl ?_
        refine x_getR (pc := 11) hS fX2_21 dX2_search_11 rfl rfl ?_
        refine x_iload_n (pc := 14) (i := 3) dX2_search_14 rfl rfl ?_
        refine x_aload_n (pc := 15) (i := 1) dX2_search_15 rfl rfl ?_
        refine x_iload_n (pc := 16) (i := 3) dX2_search_16 rfl rfl ?_
        refine x_vs (pc := 17) (As := [_]) rfl hS lX2_39 dX2_search_17 rfl rfl (Nat.le_of_ble_eq_true rfl) (c_X0_holdsOf_7 hS tb' hnb) ?_
        rintro _ _ ⟨rfl, hq⟩
        obtain rfl := hq.symm
        refine x_pushI ?_
        rw [ck, if_pos (show (0 : Int32) ≤ nI k ∧ nI k < fld (setA (setA w 38 (tkI k (fun b => holdsE (arr w 8 b) (arr w 9 b)) (arr w 38))) 39 (tkI k (fun b => nI (10 + b)) (arr w 39))) 7 0 from ⟨by rw [i_le, il_0, tk]; omega, by rw [i_lt, tb', tk]; omega⟩), arr_setA_a (by decide), arr_setA_a (by decide), arr_setA_a (by decide), arr_setA_a (by decide)]
        refine x_astN (pc := 20) hS dX2_search_20 rfl (by omega) (by decide) (fun hS => ?_)
        rw [arr_setA_a (by decide), arr_setA hS0 rfl, setA_comm _ (show (39 : Nat) ≠ 38 by decide), setA_setA, tkI_s (r := fun b => holdsE (arr w 8 b) (arr w 9 b))]
        have hS := (hS0.stA 38 (tkI (k + 1) (fun b => holdsE (arr w 8 b) (arr w 9 b)) (arr w 38))).stA 39 (tkI k (fun b => nI (10 + b)) (arr w 39))
        refine x_aload_n (pc := 21) (i := 0) dX2_search_21 rfl rfl ?_
        refine x_getR (pc := 22) hS fX2_24 dX2_search_22 rfl rfl ?_
        refine x_iload_n (pc := 25) (i := 3) dX2_search_25 rfl rfl ?_
        refine x_bipush (pc := 26) (v := 10) dX2_search_26 (by decide) ?_
        refine x_iload_n (pc := 28) (i := 3) dX2_search_28 rfl rfl ?_
        refine x_iadd (pc := 29) dX2_search_29 ?_
        rw [show (10 : Int32) + nI k = nI (10 + k) from nI_add 10 k]
        refine x_astN (pc := 30) hS dX2_search_30 rfl (by omega) (by decide) (fun hS => ?_)
        rw [arr_setA (hS0.stA _ _) rfl, setA_setA, tkI_s (r := fun b => nI (10 + b))]
        refine x_iinc (pc := 31) (L' := [_, _, _, _]) dX2_search_31 (by decide) rfl (by first | exact nI_inc _ | rfl) rfl ?_
        refine x_goto (pc := 34) (tgt := 2) dX2_search_34 (by decide) ?_
        exact ih (k + 1) (by omega) (by omega)
  have hS := hS0
  refine mC.of (L := [_, _, _, _]) okX2_search 1 rfl rfl ?_
  refine x_iconst (pc := 0) (v := 0) dX2_search_0 (by decide) ?_
  refine x_istore_n (pc := 1) (i := 3) (L' := [_, _, _, _]) dX2_search_1 rfl (by decide) rfl ?_
  have h8 := lp (nb + 1) 0 (by omega) (by omega)
  rw [tkI_0, tkI_0, setA_self hS0 rfl, setA_self hS0 rfl] at h8
  exact h8
-- the reference: what stands against a row
def agE (so sl sort i n : Int32) : Int32 := if so ≠ -9 ∧ so ≠ sort then 2 else if so = -9 then 1 else if n < 0 then 4 else if i < 0 ∨ sl < i ∨ sl - i < n then 3 else 0
theorem c_X8_against {d : Nat} {w : mW} {k : Nat} {sort i n : Int32} (hS : Shape w) (hk : k < 4) : mC d kX8_against [.ref 44, .int (nI k), .int sort, .int i, .int n] w (fun r w' => r = some (.int (agE (arr w 45 k) (arr w 46 k) sort i n)) ∧ w' = w) := by
  refine mC.of (L := [_, _, _, _, _]) okX8_against 0 rfl rfl ?_
  refine x_aload_n (pc := 0) (i := 0) dX8_against_0 rfl rfl ?_
  refine x_getR (pc := 1) hS fX8_9 dX8_against_1 rfl rfl ?_
  refine x_iload_n (pc := 4) (i := 1) dX8_against_4 rfl rfl ?_
  refine x_aldN (pc := 5) hS dX8_against_5 rfl (by omega) (by decide) ?_
  refine x_bipush (pc := 6) (v := (-9)) dX8_against_6 (by decide) ?_
  refine x_icmp_eq (pc := 8) (tgt := 23) dX8_against_8 (by decide) (fun h8 => ?_) (fun h8 => ?_)
  · refine x_aload_n (pc := 23) (i := 0) dX8_against_23 rfl rfl ?_
    refine x_getR (pc := 24) hS fX8_9 dX8_against_24 rfl rfl ?_
    refine x_iload_n (pc := 27) (i := 1) dX8_against_27 rfl rfl ?_
    refine x_aldN (pc := 28) hS dX8_against_28 rfl (by omega) (by decide) ?_
    refine x_bipush (pc := 29) (v := (-9)) dX8_against_29 (by decide) ?_
    refine x_icmp_ne (pc := 31) (tgt := 36) dX8_against_31 (by decide) (fun h31 => ?_) (fun h31 => ?_)
    · refine x_iload (pc := 36) dX8_against_36 rfl ?_
      refine x_if_ge (pc := 38) (tgt := 43) dX8_against_38 (by decide) (fun h38 => ?_) (fun h38 => ?_)
      · refine x_iload_n (pc := 43) (i := 3) dX8_against_43 rfl rfl ?_
        refine x_if_lt (pc := 44) (tgt := 70) dX8_against_44 (by decide) (fun h44 => ?_) (fun h44 => ?_)
        · refine x_iconst (pc := 70) (v := 3) dX8_against_70 (by decide) ?_
          refine x_goto (pc := 71) (tgt := 75) dX8_against_71 (by decide) ?_
          refine x_ri (pc := 75) dX8_against_75 rfl rfl ?_
          refine ⟨?_, rfl⟩
          unfold agE
          rw [if_neg (fun z => by first | exact z.2 h18 | exact z.1 h8), if_neg h31, if_neg (Int32.not_lt.mpr h38)]
          first | rw [if_pos (Or.inl h44)] | rw [if_pos (Or.inr (Or.inl h54))] | rw [if_pos (Or.inr (Or.inr (Int32.not_le.mp h67)))] | (have z1 := h44; have z2 := h54; have z3 := Int32.not_lt.mpr h67; rw [if_neg (fun z => z.elim z1 (fun z => z.elim z2 z3))])
        · refine x_iload_n (pc := 47) (i := 3) dX8_against_47 rfl rfl ?_
          refine x_aload_n (pc := 48) (i := 0) dX8_against_48 rfl rfl ?_
          refine x_getR (pc := 49) hS fX8_13 dX8_against_49 rfl rfl ?_
          refine x_iload_n (pc := 52) (i := 1) dX8_against_52 rfl rfl ?_
          refine x_aldN (pc := 53) hS dX8_against_53 rfl (by omega) (by decide) ?_
          refine x_icmp_gt (pc := 54) (tgt := 70) dX8_against_54 (by decide) (fun h54 => ?_) (fun h54 => ?_)
          · refine x_iconst (pc := 70) (v := 3) dX8_against_70 (by decide) ?_
            refine x_goto (pc := 71) (tgt := 75) dX8_against_71 (by decide) ?_
            refine x_ri (pc := 75) dX8_against_75 rfl rfl ?_
            refine ⟨?_, rfl⟩
            unfold agE
            rw [if_neg (fun z => by first | exact z.2 h18 | exact z.1 h8), if_neg h31, if_neg (Int32.not_lt.mpr h38)]
            first | rw [if_pos (Or.inl h44)] | rw [if_pos (Or.inr (Or.inl h54))] | rw [if_pos (Or.inr (Or.inr (Int32.not_le.mp h67)))] | (have z1 := h44; have z2 := h54; have z3 := Int32.not_lt.mpr h67; rw [if_neg (fun z => z.elim z1 (fun z => z.elim z2 z3))])
          · refine x_iload (pc := 57) dX8_against_57 rfl ?_
            refine x_aload_n (pc := 59) (i := 0) dX8_against_59 rfl rfl ?_
            refine x_getR (pc := 60) hS fX8_13 dX8_against_60 rfl rfl ?_
            refine x_iload_n (pc := 63) (i := 1) dX8_against_63 rfl rfl ?_
            refine x_aldN (pc := 64) hS dX8_against_64 rfl (by omega) (by decide) ?_
            refine x_iload_n (pc := 65) (i := 3) dX8_against_65 rfl rfl ?_
            refine x_isub (pc := 66) dX8_against_66 ?_
            refine x_icmp_le (pc := 67) (tgt := 74) dX8_against_67 (by decide) (fun h67 => ?_) (fun h67 => ?_)
            · refine x_iconst (pc := 74) (v := 0) dX8_against_74 (by decide) ?_
              refine x_ri (pc := 75) dX8_against_75 rfl rfl ?_
              refine ⟨?_, rfl⟩
              unfold agE
              rw [if_neg (fun z => by first | exact z.2 h18 | exact z.1 h8), if_neg h31, if_neg (Int32.not_lt.mpr h38)]
              first | rw [if_pos (Or.inl h44)] | rw [if_pos (Or.inr (Or.inl h54))] | rw [if_pos (Or.inr (Or.inr (Int32.not_le.mp h67)))] | (have z1 := h44; have z2 := h54; have z3 := Int32.not_lt.mpr h67; rw [if_neg (fun z => z.elim z1 (fun z => z.elim z2 z3))])
            · refine x_iconst (pc := 70) (v := 3) dX8_against_70 (by decide) ?_
              refine x_goto (pc := 71) (tgt := 75) dX8_against_71 (by decide) ?_
              refine x_ri (pc := 75) dX8_against_75 rfl rfl ?_
              refine ⟨?_, rfl⟩
              unfold agE
              rw [if_neg (fun z => by first | exact z.2 h18 | exact z.1 h8), if_neg h31, if_neg (Int32.not_lt.mpr h38)]
              first | rw [if_pos (Or.inl h44)] | rw [if_pos (Or.inr (Or.inl h54))] | rw [if_pos (Or.inr (Or.inr (Int32.not_le.mp h67)))] | (have z1 := h44; have z2 := h54; have z3 := Int32.not_lt.mpr h67; rw [if_neg (fun z => z.elim z1 (fun z => z.elim z2 z3))])
      · refine x_iconst (pc := 41) (v := 4) dX8_against_41 (by decide) ?_
        refine x_ri (pc := 42) dX8_against_42 rfl rfl ?_
        exact ⟨by unfold agE; rw [if_neg (fun z => by first | exact z.2 h18 | exact z.1 h8), if_neg h31, if_pos (Int32.not_le.mp h38)], rfl⟩
    · refine x_iconst (pc := 34) (v := 1) dX8_against_34 (by decide) ?_
      refine x_ri (pc := 35) dX8_against_35 rfl rfl ?_
      exact ⟨by unfold agE; rw [if_neg (fun z => by first | exact z.1 h31 | exact z.1 h8), if_pos h31], rfl⟩
  · refine x_aload_n (pc := 11) (i := 0) dX8_against_11 rfl rfl ?_
    refine x_getR (pc := 12) hS fX8_9 dX8_against_12 rfl rfl ?_
    refine x_iload_n (pc := 15) (i := 1) dX8_against_15 rfl rfl ?_
    refine x_aldN (pc := 16) hS dX8_against_16 rfl (by omega) (by decide) ?_
    refine x_iload_n (pc := 17) (i := 2) dX8_against_17 rfl rfl ?_
    refine x_icmp_eq (pc := 18) (tgt := 23) dX8_against_18 (by decide) (fun h18 => ?_) (fun h18 => ?_)
    · refine x_aload_n (pc := 23) (i := 0) dX8_against_23 rfl rfl ?_
      refine x_getR (pc := 24) hS fX8_9 dX8_against_24 rfl rfl ?_
      refine x_iload_n (pc := 27) (i := 1) dX8_against_27 rfl rfl ?_
      refine x_aldN (pc := 28) hS dX8_against_28 rfl (by omega) (by decide) ?_
      refine x_bipush (pc := 29) (v := (-9)) dX8_against_29 (by decide) ?_
      refine x_icmp_ne (pc := 31) (tgt := 36) dX8_against_31 (by decide) (fun h31 => ?_) (fun h31 => ?_)
      · refine x_iload (pc := 36) dX8_against_36 rfl ?_
        refine x_if_ge (pc := 38) (tgt := 43) dX8_against_38 (by decide) (fun h38 => ?_) (fun h38 => ?_)
        · refine x_iload_n (pc := 43) (i := 3) dX8_against_43 rfl rfl ?_
          refine x_if_lt (pc := 44) (tgt := 70) dX8_against_44 (by decide) (fun h44 => ?_) (fun h44 => ?_)
          · refine x_iconst (pc := 70) (v := 3) dX8_against_70 (by decide) ?_
            refine x_goto (pc := 71) (tgt := 75) dX8_against_71 (by decide) ?_
            refine x_ri (pc := 75) dX8_against_75 rfl rfl ?_
            refine ⟨?_, rfl⟩
            unfold agE
            rw [if_neg (fun z => by first | exact z.2 h18 | exact z.1 h8), if_neg h31, if_neg (Int32.not_lt.mpr h38)]
            first | rw [if_pos (Or.inl h44)] | rw [if_pos (Or.inr (Or.inl h54))] | rw [if_pos (Or.inr (Or.inr (Int32.not_le.mp h67)))] | (have z1 := h44; have z2 := h54; have z3 := Int32.not_lt.mpr h67; rw [if_neg (fun z => z.elim z1 (fun z => z.elim z2 z3))])
          · refine x_iload_n (pc := 47) (i := 3) dX8_against_47 rfl rfl ?_
            refine x_aload_n (pc := 48) (i := 0) dX8_against_48 rfl rfl ?_
            refine x_getR (pc := 49) hS fX8_13 dX8_against_49 rfl rfl ?_
            refine x_iload_n (pc := 52) (i := 1) dX8_against_52 rfl rfl ?_
            refine x_aldN (pc := 53) hS dX8_against_53 rfl (by omega) (by decide) ?_
            refine x_icmp_gt (pc := 54) (tgt := 70) dX8_against_54 (by decide) (fun h54 => ?_) (fun h54 => ?_)
            · refine x_iconst (pc := 70) (v := 3) dX8_against_70 (by decide) ?_
              refine x_goto (pc := 71) (tgt := 75) dX8_against_71 (by decide) ?_
              refine x_ri (pc := 75) dX8_against_75 rfl rfl ?_
              refine ⟨?_, rfl⟩
              unfold agE
              rw [if_neg (fun z => by first | exact z.2 h18 | exact z.1 h8), if_neg h31, if_neg (Int32.not_lt.mpr h38)]
              first | rw [if_pos (Or.inl h44)] | rw [if_pos (Or.inr (Or.inl h54))] | rw [if_pos (Or.inr (Or.inr (Int32.not_le.mp h67)))] | (have z1 := h44; have z2 := h54; have z3 := Int32.not_lt.mpr h67; rw [if_neg (fun z => z.elim z1 (fun z => z.elim z2 z3))])
            · refine x_iload (pc := 57) dX8_against_57 rfl ?_
              refine x_aload_n (pc := 59) (i := 0) dX8_against_59 rfl rfl ?_
              refine x_getR (pc := 60) hS fX8_13 dX8_against_60 rfl rfl ?_
              refine x_iload_n (pc := 63) (i := 1) dX8_against_63 rfl rfl ?_
              refine x_aldN (pc := 64) hS dX8_against_64 rfl (by omega) (by decide) ?_
              refine x_iload_n (pc := 65) (i := 3) dX8_against_65 rfl rfl ?_
              refine x_isub (pc := 66) dX8_against_66 ?_
              refine x_icmp_le (pc := 67) (tgt := 74) dX8_against_67 (by decide) (fun h67 => ?_) (fun h67 => ?_)
              · refine x_iconst (pc := 74) (v := 0) dX8_against_74 (by decide) ?_
                refine x_ri (pc := 75) dX8_against_75 rfl rfl ?_
                refine ⟨?_, rfl⟩
                unfold agE
                rw [if_neg (fun z => by first | exact z.2 h18 | exact z.1 h8), if_neg h31, if_neg (Int32.not_lt.mpr h38)]
                first | rw [if_pos (Or.inl h44)] | rw [if_pos (Or.inr (Or.inl h54))] | rw [if_pos (Or.inr (Or.inr (Int32.not_le.mp h67)))] | (have z1 := h44; have z2 := h54; have z3 := Int32.not_lt.mpr h67; rw [if_neg (fun z => z.elim z1 (fun z => z.elim z2 z3))])
              · refine x_iconst (pc := 70) (v := 3) dX8_against_70 (by decide) ?_
                refine x_goto (pc := 71) (tgt := 75) dX8_against_71 (by decide) ?_
                refine x_ri (pc := 75) dX8_against_75 rfl rfl ?_
                refine ⟨?_, rfl⟩
                unfold agE
                rw [if_neg (fun z => by first | exact z.2 h18 | exact z.1 h8), if_neg h31, if_neg (Int32.not_lt.mpr h38)]
                first | rw [if_pos (Or.inl h44)] | rw [if_pos (Or.inr (Or.inl h54))] | rw [if_pos (Or.inr (Or.inr (Int32.not_le.mp h67)))] | (have z1 := h44; have z2 := h54; have z3 := Int32.not_lt.mpr h67; rw [if_neg (fun z => z.elim z1 (fun z => z.elim z2 z3))])
        · refine x_iconst (pc := 41) (v := 4) dX8_against_41 (by decide) ?_
          refine x_ri (pc := 42) dX8_against_42 rfl rfl ?_
          exact ⟨by unfold agE; rw [if_neg (fun z => by first | exact z.2 h18 | exact z.1 h8), if_neg h31, if_pos (Int32.not_le.mp h38)], rfl⟩
      · refine x_iconst (pc := 34) (v := 1) dX8_against_34 (by decide) ?_
        refine x_ri (pc := 35) dX8_against_35 rfl rfl ?_
        exact ⟨by unfold agE; rw [if_neg (fun z => by first | exact z.1 h31 | exact z.1 h8), if_pos h31], rfl⟩
    · refine x_iconst (pc := 21) (v := 2) dX8_against_21 (by decide) ?_
      refine x_ri (pc := 22) dX8_against_22 rfl rfl ?_
      exact ⟨by unfold agE; rw [if_pos ⟨h8, h18⟩], rfl⟩
theorem agE_eq {w : mW} (hSI : SI w) {k : Nat} (hk : k < 4) {lane i n : Int32} : agE (arr w 45 k) (arr w 46 k) lane i n = if fRow (arr w 2 k) lane ≠ 0 then fRow (arr w 2 k) lane else if n < 0 then 4 else fCells (arr w 3 k) i n := by
  rcases hSI.at hk with ⟨q1, q2⟩ | ⟨q1, q2, q3, m, q4, q5, q6, q7⟩
  · have e : fRow (arr w 2 k) lane = 1 := by unfold fRow; rw [if_pos q1]
    rw [e, if_pos (by decide)]
    unfold agE
    rw [if_neg (fun z => z.1 q2), if_pos q2]
  · by_cases hL : arr w 2 k = lane
    · have e : fRow (arr w 2 k) lane = 0 := by unfold fRow; rw [if_neg q1, if_pos hL]
      rw [e, if_neg (by decide)]
      unfold agE
      rw [if_neg (fun z => z.2 (by rw [q3]; exact hL)), if_neg q2]
      by_cases hn : n < 0
      · rw [if_pos hn, if_pos hn]
      · rw [if_neg hn, if_neg hn, q5, q6]
        unfold fCells
        have tm : (nI m).toInt = (m : Int) := nI_toInt (by omega)
        rw [i_lt, il_0] at hn
        by_cases hi : i < 0 ∨ nI m < i
        · rw [if_pos (by rcases hi with h | h; exact Or.inl h; exact Or.inr (Or.inl h)), if_neg]
          rw [tm]
          rintro ⟨g1, g2, g3⟩
          rcases hi with h | h
          · rw [i_lt, il_0] at h; omega
          · rw [i_lt, tm] at h; omega
        · have hi1 : 0 ≤ i.toInt ∧ i.toInt ≤ (m : Int) := by
            refine ⟨?_, ?_⟩
            · have : ¬ i < 0 := fun h => hi (Or.inl h); rw [i_lt, il_0] at this; omega
            · have : ¬ nI m < i := fun h => hi (Or.inr h); rw [i_lt, tm] at this; omega
          have e2 : (nI m - i).toInt = (m : Int) - i.toInt := by rw [i_sub, tm] <;> rw [tm] <;> omega
          by_cases hc : nI m - i < n
          · rw [if_pos (Or.inr (Or.inr hc)), if_neg]
            rw [i_lt, e2] at hc
            rw [tm]; omega
          · rw [if_neg (fun z => z.elim (fun z => hi (Or.inl z)) (fun z => z.elim (fun z => hi (Or.inr z)) hc)), if_pos]
            rw [i_lt, e2] at hc
            rw [tm]; omega
    · have e : fRow (arr w 2 k) lane = 2 := by unfold fRow; rw [if_neg q1, if_neg hL]
      rw [e, if_pos (by decide)]
      unfold agE
      rw [if_pos ⟨q2, by rw [q3]; exact hL⟩]
theorem c_X8_areDreams {d : Nat} {w : mW} {nb nw F : Nat} {H ρ : Nat → Nat} (hS : Shape w) (tb : (fld w 44 5).toInt = (nb : Int)) (hnb : nb ≤ 5) (tw : (fld w 44 6).toInt = (nw : Int)) (hnw : nw ≤ 5) (hki : ∀ b, b < nb → arr w 48 b = 0 ∨ arr w 48 b = 1 ∨ arr w 48 b = 2) (hH : ∀ b, b < nb → holdsE (arr w 48 b) (arr w 49 b) = nI (H b) ∧ H b ≤ 8) (hr : ∀ i, i < nw → arr w 63 i = nI (ρ i) ∧ ρ i ≤ nb) (hF : F + nw ≤ 240) : mC (d + 3) kX8_areDreams [.ref 44, .int (nI F)] w (fun r w' => r = some (.int (b2 (lAcc nb nw H (fun i => arr w 47 (F + i)) ρ = true))) ∧ w' = w) := by
  have eb := nI_ofT tb (by omega)
  have lp : ∀ (m k : Nat), k ≤ nw → nw < k + m → allN (fun i => toldB (fun i => arr w 47 (F + i)) i (drR nb ρ i)) k = true → mJ mX0 (d + 3) kX8_areDreams (fun r w' => r = some (.int (b2 (lAcc nb nw H (fun i => arr w 47 (F + i)) ρ = true))) ∧ w' = w) 2 [.ref 44, .int (nI F), .int (nI k), .null, .null] [] w := by
    intro m
    induction m with
    | zero => intro k h1 h2; omega
    | succ m ih =>
      intro k hk1 hk2 ha
      have tk : (nI k).toInt = (k : Int) := nI_toInt (by omega)
      refine x_iload_n (pc := 2) (i := 2) dX8_areDreams_2 rfl rfl ?_
      refine x_aload_n (pc := 3) (i := 0) dX8_areDreams_3 rfl rfl ?_
      refine x_getI (pc := 4) hS fX8_95 dX8_areDreams_4 rfl rfl ?_
      refine x_icmp_ge (pc := 7) (tgt := 67) dX8_areDreams_7 (by decide) (fun h7 => ?_) (fun h7 => ?_)
      · refine x_aload_n (pc := 67) (i := 0) dX8_areDreams_67 rfl rfl ?_
        refine x_vs (pc := 68) (As := []) rfl hS lX8_208 dX8_areDreams_68 rfl rfl (Nat.le_of_ble_eq_true rfl) (c_X8_isHeld hS tb hnb tw hnw hki hH hr) ?_
        rintro _ _ ⟨rfl, hq⟩
        obtain rfl := hq.symm
        refine x_pushI ?_
        refine x_ri (pc := 71) dX8_areDreams_71 rfl nar_b2 ?_
        have hkn : k = nw := by (try simp only [b2_e0, b2_n0, Decidable.not_not] at *) <;> (try simp only [i_lt, i_le, i_eq, not_and, not_or, ne_eq, il_0, il_1, il_2, il_3, il_4, il_5, il_6, il_7, il_8, il_9, il_10, il_14, il_15, il_19, il_20, il_24, il_30, il_31, il_44, il_48, il_49, il_52, il_57, il_59, il_60, il_70, il_99, il_100, il_103, il_108, il_114, il_m1, il_m2, il_m3, il_m4, il_m9, il_m10, il_m100] at *) <;> omega
        rw [hkn] at ha
        exact ⟨by rw [show lAcc nb nw H (fun i => arr w 47 (F + i)) ρ = hHeld nb nw H ρ from by unfold lAcc; rw [ha, Bool.true_and]], rfl⟩
      · have hkn : k < nw := by (try simp only [b2_e0, b2_n0, Decidable.not_not] at *) <;> (try simp only [i_lt, i_le, i_eq, not_and, not_or, ne_eq, il_0, il_1, il_2, il_3, il_4, il_5, il_6, il_7, il_8, il_9, il_10, il_14, il_15, il_19, il_20, il_24, il_30, il_31, il_44, il_48, il_49, il_52, il_57, il_59, il_60, il_70, il_99, il_100, il_103, il_108, il_114, il_m1, il_m2, il_m3, il_m4, il_m9, il_m10, il_m100] at *) <;> omega
        have hd : (if ρ k = nb then (99 : Int32) else dreamN (arr w 63) (nI (ρ k)) k) = drR nb ρ k := by unfold drR; rw [drN_nI (ρ := ρ) (by have := (hr k hkn).2; omega) (fun i hi => ⟨(hr i (by omega)).1, by have := (hr i (by omega)).2; omega⟩) (by omega)]
        refine x_aload_n (pc := 10) (i := 0) dX8_areDreams_10 rfl rfl ?_
        refine x_getR (pc := 11) hS fX8_16 dX8_areDreams_11 rfl rfl ?_
        refine x_iload_n (pc := 14) (i := 1) dX8_areDreams_14 rfl rfl ?_
        refine x_iload_n (pc := 15) (i := 2) dX8_areDreams_15 rfl rfl ?_
        refine x_iadd (pc := 16) dX8_areDreams_16 ?_
        rw [nI_add]
        refine x_aldN (pc := 17) hS dX8_areDreams_17 rfl (by omega) (by decide) ?_
        refine x_istore_n (pc := 18) (i := 3) (L' := [_, _, _, _, _]) dX8_areDreams_18 rfl (by decide) rfl ?_
        refine x_aload_n (pc := 19) (i := 0) dX8_areDreams_19 rfl rfl ?_
        refine x_getR (pc := 20) hS fX8_64 dX8_areDreams_20 rfl rfl ?_
        refine x_iload_n (pc := 23) (i := 2) dX8_areDreams_23 rfl rfl ?_
        refine x_aldN (pc := 24) hS dX8_areDreams_24 rfl (by omega) (by decide) ?_
        rw [(hr k hkn).1]
        refine x_aload_n (pc := 25) (i := 0) dX8_areDreams_25 rfl rfl ?_
        refine x_getI (pc := 26) hS fX8_92 dX8_areDreams_26 rfl rfl ?_
        rw [eb]
        refine x_icmp_ne (pc := 29) (tgt := 37) dX8_areDreams_29 (by decide) (fun h29 => ?_) (fun h29 => ?_)
        · refine x_aload_n (pc := 37) (i := 0) dX8_areDreams_37 rfl rfl ?_
          refine x_getR (pc := 38) hS fX8_64 dX8_areDreams_38 rfl rfl ?_
          refine x_iload_n (pc := 41) (i := 2) dX8_areDreams_41 rfl rfl ?_
          refine x_ss (pc := 42) (As := [_, _]) rfl lX8_164 dX8_areDreams_42 rfl (Nat.le_of_ble_eq_true rfl) (c_X8_dreamOf_63 hS (by omega)) ?_
          rintro _ _ ⟨rfl, hq⟩
          obtain rfl := hq.symm
          refine x_pushI ?_
          first | (rw [(hr k hkn).1, hd.symm.trans (if_neg (fun z => h29 (by rw [z]))) |>.symm]) | skip
          refine x_istore (pc := 45) (L' := [_, _, _, _, _]) dX8_areDreams_45 (by decide) rfl ?_
          refine x_iload_n (pc := 47) (i := 3) dX8_areDreams_47 rfl rfl ?_
          refine x_bipush (pc := 48) (v := (-9)) dX8_areDreams_48 (by decide) ?_
          refine x_icmp_eq (pc := 50) (tgt := 61) dX8_areDreams_50 (by decide) (fun h50 => ?_) (fun h50 => ?_)
          · refine x_iinc (pc := 61) (L' := [_, _, _, _, _]) dX8_areDreams_61 (by decide) rfl (by first | exact nI_inc _ | rfl) rfl ?_
            refine x_goto (pc := 64) (tgt := 2) dX8_areDreams_64 (by decide) ?_
            refine mJ.weak (wk_v (wk_v (wk_v (wk_n (wk_n wk_0))))) (ih (k + 1) (by omega) (by omega) ?_)
            rw [allN, ha, Bool.true_and]
            unfold toldB
            exact decide_eq_true (by first | exact Or.inl h50 | exact Or.inr h56)
          · refine x_iload_n (pc := 53) (i := 3) dX8_areDreams_53 rfl rfl ?_
            refine x_iload (pc := 54) dX8_areDreams_54 rfl ?_
            refine x_icmp_eq (pc := 56) (tgt := 61) dX8_areDreams_56 (by decide) (fun h56 => ?_) (fun h56 => ?_)
            · refine x_iinc (pc := 61) (L' := [_, _, _, _, _]) dX8_areDreams_61 (by decide) rfl (by first | exact nI_inc _ | rfl) rfl ?_
              refine x_goto (pc := 64) (tgt := 2) dX8_areDreams_64 (by decide) ?_
              refine mJ.weak (wk_v (wk_v (wk_v (wk_n (wk_n wk_0))))) (ih (k + 1) (by omega) (by omega) ?_)
              rw [allN, ha, Bool.true_and]
              unfold toldB
              exact decide_eq_true (by first | exact Or.inl h50 | exact Or.inr h56)
            · refine x_iconst (pc := 59) (v := 0) dX8_areDreams_59 (by decide) ?_
              refine x_ri (pc := 60) dX8_areDreams_60 rfl rfl ?_
              refine ⟨?_, rfl⟩
              rw [b2_f]
              unfold lAcc
              rw [Bool.and_eq_true, allN_iff]
              intro z
              have z1 := z.1 k hkn
              unfold toldB at z1
              rw [decide_eq_true_eq] at z1
              exact z1.elim h50 h56
        · refine x_bipush (pc := 32) (v := 99) dX8_areDreams_32 (by decide) ?_
          rw [show (99 : Int32) = drR nb ρ k from by rw [← hd, if_pos ((nI_eq (by have := (hr k hkn).2; omega) (by omega)).mp h29)]]
          refine x_goto (pc := 34) (tgt := 45) dX8_areDreams_34 (by decide) ?_
          first | (rw [(hr k hkn).1, hd.symm.trans (if_neg (fun z => h29 (by rw [z]))) |>.symm]) | skip
          refine x_istore (pc := 45) (L' := [_, _, _, _, _]) dX8_areDreams_45 (by decide) rfl ?_
          refine x_iload_n (pc := 47) (i := 3) dX8_areDreams_47 rfl rfl ?_
          refine x_bipush (pc := 48) (v := (-9)) dX8_areDreams_48 (by decide) ?_
          refine x_icmp_eq (pc := 50) (tgt := 61) dX8_areDreams_50 (by decide) (fun h50 => ?_) (fun h50 => ?_)
          · refine x_iinc (pc := 61) (L' := [_, _, _, _, _]) dX8_areDreams_61 (by decide) rfl (by first | exact nI_inc _ | rfl) rfl ?_
            refine x_goto (pc := 64) (tgt := 2) dX8_areDreams_64 (by decide) ?_
            refine mJ.weak (wk_v (wk_v (wk_v (wk_n (wk_n wk_0))))) (ih (k + 1) (by omega) (by omega) ?_)
            rw [allN, ha, Bool.true_and]
            unfold toldB
            exact decide_eq_true (by first | exact Or.inl h50 | exact Or.inr h56)
          · refine x_iload_n (pc := 53) (i := 3) dX8_areDreams_53 rfl rfl ?_
            refine x_iload (pc := 54) dX8_areDreams_54 rfl ?_
            refine x_icmp_eq (pc := 56) (tgt := 61) dX8_areDreams_56 (by decide) (fun h56 => ?_) (fun h56 => ?_)
            · refine x_iinc (pc := 61) (L' := [_, _, _, _, _]) dX8_areDreams_61 (by decide) rfl (by first | exact nI_inc _ | rfl) rfl ?_
              refine x_goto (pc := 64) (tgt := 2) dX8_areDreams_64 (by decide) ?_
              refine mJ.weak (wk_v (wk_v (wk_v (wk_n (wk_n wk_0))))) (ih (k + 1) (by omega) (by omega) ?_)
              rw [allN, ha, Bool.true_and]
              unfold toldB
              exact decide_eq_true (by first | exact Or.inl h50 | exact Or.inr h56)
            · refine x_iconst (pc := 59) (v := 0) dX8_areDreams_59 (by decide) ?_
              refine x_ri (pc := 60) dX8_areDreams_60 rfl rfl ?_
              refine ⟨?_, rfl⟩
              rw [b2_f]
              unfold lAcc
              rw [Bool.and_eq_true, allN_iff]
              intro z
              have z1 := z.1 k hkn
              unfold toldB at z1
              rw [decide_eq_true_eq] at z1
              exact z1.elim h50 h56
  refine mC.of (L := [_, _, _, _, _]) okX8_areDreams 3 rfl rfl ?_
  refine x_iconst (pc := 0) (v := 0) dX8_areDreams_0 (by decide) ?_
  refine x_istore_n (pc := 1) (i := 2) (L' := [_, _, _, _, _]) dX8_areDreams_1 rfl (by decide) rfl ?_
  exact lp (nw + 1) 0 (by omega) (by omega) rfl

