-- the down: sets of lodgers, counts
theorem or_bit : ∀ k, k < 5 → ∀ s, s < 2 ^ k → nI s ||| (1 : Int32) <<< (nI k &&& 31) = nI (s + 2 ^ k) := by decide +kernel
def bitsN (p : Nat → Bool) : Nat → Nat
  | 0 => 0
  | k + 1 => bitsN p k + (if p k then 2 ^ k else 0)
def cntN (p : Nat → Bool) : Nat → Nat
  | 0 => 0
  | k + 1 => cntN p k + (if p k then 1 else 0)
theorem bitsN_lt (p : Nat → Bool) : ∀ k, bitsN p k < 2 ^ k
  | 0 => by simp [bitsN]
  | k + 1 => by
    have := bitsN_lt p k
    rw [Nat.pow_succ]
    unfold bitsN
    split <;> omega
theorem bitsN_t {p : Nat → Bool} {k : Nat} (hk : k < 5) (h : p k = true) : nI (bitsN p k) ||| (1 : Int32) <<< (nI k &&& 31) = nI (bitsN p (k + 1)) := by
  rw [or_bit k hk _ (bitsN_lt p k)]; simp [bitsN, h]
theorem bitsN_f {p : Nat → Bool} {k : Nat} (h : p k = false) : bitsN p (k + 1) = bitsN p k := by simp [bitsN, h]
def popc (s : Nat) : Nat := s % 2 + s / 2 % 2 + s / 4 % 2 + s / 8 % 2 + s / 16 % 2
theorem popc_bits (p : Nat → Bool) {n : Nat} (hn : n ≤ 5) : popc (bitsN p n) = cntN p n := by
  match n, hn with
  | 0, _ => simp [popc, bitsN, cntN]
  | 1, _ => simp only [bitsN, cntN]; cases p 0 <;> rfl
  | 2, _ => simp only [bitsN, cntN]; cases p 0 <;> cases p 1 <;> rfl
  | 3, _ => simp only [bitsN, cntN]; cases p 0 <;> cases p 1 <;> cases p 2 <;> rfl
  | 4, _ => simp only [bitsN, cntN]; cases p 0 <;> cases p 1 <;> cases p 2 <;> cases p 3 <;> rfl
  | 5, _ => simp only [bitsN, cntN]; cases p 0 <;> cases p 1 <;> cases p 2 <;> cases p 3 <;> cases p 4 <;> rfl
def lodgP (f : Nat → Int32) (b : Int32) : Nat → Bool := fun j => decide (f j = b)
def inP (f : Nat → Int32) (nb : Int32) : Nat → Bool := fun j => decide (0 ≤ f j ∧ f j < nb)
theorem mJ_L {X : mX} {d : Nat} {M : mM} {Q : Option Value → mW → Prop} {pc : Nat} {L L' st : List Value} {w : mW} (h : L = L') (k : mJ X d M Q pc L' st w) : mJ X d M Q pc L st w := h ▸ k
theorem c_X0_lodgersOf_7 {d : Nat} {w : mW} {b : Int32} {nw : Nat} (hS : Shape w) (tw : (fld w 7 1).toInt = (nw : Int)) (hnw : nw ≤ 5) : mC d kX0_lodgersOf [.ref 7, .int b] w (fun r w' => r = some (.int (nI (bitsN (lodgP (arr w 15) b) nw))) ∧ w' = w) := by
  have lp : ∀ (n k : Nat), k ≤ nw → nw < k + n → mJ mX0 d kX0_lodgersOf (fun r w' => r = some (.int (nI (bitsN (lodgP (arr w 15) b) nw))) ∧ w' = w) 4 [.ref 7, .int b, .int (nI (bitsN (lodgP (arr w 15) b) k)), .int (nI k)] [] w := by
    intro n
    induction n with
    | zero => intro k h1 h2; omega
    | succ n ih =>
      intro k hk1 hk2
      have tk : (nI k).toInt = (k : Int) := nI_toInt (by omega)
      have ck : (nI k).toNatClampNeg = k := nI_clamp (by omega)
      refine x_iload_n (pc := 4) (i := 3) dX0_lodgersOf_4 rfl rfl ?_
      refine x_aload_n (pc := 5) (i := 0) dX0_lodgersOf_5 rfl rfl ?_
      refine x_getI (pc := 6) hS fX0_43 dX0_lodgersOf_6 rfl rfl ?_
      refine x_icmp_ge (pc := 9) (tgt := 34) dX0_lodgersOf_9 (by decide) (fun h9 => ?_) (fun h9 => ?_)
      · refine x_iload_n (pc := 34) (i := 2) dX0_lodgersOf_34 rfl rfl ?_
        refine x_ri (pc := 35) dX0_lodgersOf_35 rfl rfl ?_
        exact ⟨by rw [show k = nw by (try simp only [b2_e0, b2_n0, Decidable.not_not] at *) <;> (try simp only [i_lt, i_le, i_eq, not_and, not_or, ne_eq, il_0, il_1, il_2, il_3, il_4, il_5, il_6, il_7, il_8, il_9, il_10, il_14, il_15, il_19, il_20, il_24, il_30, il_31, il_44, il_48, il_49, il_52, il_57, il_59, il_60, il_70, il_99, il_100, il_103, il_108, il_114, il_m1, il_m2, il_m3, il_m4, il_m9, il_m10, il_m100] at *) <;> omega], rfl⟩
      · refine x_aload_n (pc := 12) (i := 0) dX0_lodgersOf_12 rfl rfl ?_
        refine x_getR (pc := 13) hS fX0_33 dX0_lodgersOf_13 rfl rfl ?_
        refine x_iload_n (pc := 16) (i := 3) dX0_lodgersOf_16 rfl rfl ?_
        refine x_ald (pc := 17) hS dX0_lodgersOf_17 rfl (vp_in_nI (by (try simp only [b2_e0, b2_n0, Decidable.not_not] at *) <;> (try simp only [i_lt, i_le, i_eq, not_and, not_or, ne_eq, il_0, il_1, il_2, il_3, il_4, il_5, il_6, il_7, il_8, il_9, il_10, il_14, il_15, il_19, il_20, il_24, il_30, il_31, il_44, il_48, il_49, il_52, il_57, il_59, il_60, il_70, il_99, il_100, il_103, il_108, il_114, il_m1, il_m2, il_m3, il_m4, il_m9, il_m10, il_m100] at *) <;> omega) (by decide)) ?_
        rw [ck]
        refine x_iload_n (pc := 18) (i := 1) dX0_lodgersOf_18 rfl rfl ?_
        refine x_icmp_ne (pc := 19) (tgt := 28) dX0_lodgersOf_19 (by decide) (fun h19 => ?_) (fun h19 => ?_)
        · refine x_iinc (pc := 28) (L' := [_, _, _, _]) dX0_lodgersOf_28 (by decide) rfl (by first | exact nI_inc _ | rfl) rfl ?_
          refine x_goto (pc := 31) (tgt := 4) dX0_lodgersOf_31 (by decide) ?_
          first | exact ih (k + 1) (by (try simp only [b2_e0, b2_n0, Decidable.not_not] at *) <;> (try simp only [i_lt, i_le, i_eq, not_and, not_or, ne_eq, il_0, il_1, il_2, il_3, il_4, il_5, il_6, il_7, il_8, il_9, il_10, il_14, il_15, il_19, il_20, il_24, il_30, il_31, il_44, il_48, il_49, il_52, il_57, il_59, il_60, il_70, il_99, il_100, il_103, il_108, il_114, il_m1, il_m2, il_m3, il_m4, il_m9, il_m10, il_m100] at *) <;> omega) (by omega) | (rw [← bitsN_f (p := lodgP (arr w 15) b) (k := k) (by simp [lodgP]; exact h19)]; exact ih (k + 1) (by (try simp only [b2_e0, b2_n0, Decidable.not_not] at *) <;> (try simp only [i_lt, i_le, i_eq, not_and, not_or, ne_eq, il_0, il_1, il_2, il_3, il_4, il_5, il_6, il_7, il_8, il_9, il_10, il_14, il_15, il_19, il_20, il_24, il_30, il_31, il_44, il_48, il_49, il_52, il_57, il_59, il_60, il_70, il_99, il_100, il_103, il_108, il_114, il_m1, il_m2, il_m3, il_m4, il_m9, il_m10, il_m100] at *) <;> omega) (by omega))
        · refine x_iload_n (pc := 22) (i := 2) dX0_lodgersOf_22 rfl rfl ?_
          refine x_iconst (pc := 23) (v := 1) dX0_lodgersOf_23 (by decide) ?_
          refine x_iload_n (pc := 24) (i := 3) dX0_lodgersOf_24 rfl rfl ?_
          refine x_ishl (pc := 25) dX0_lodgersOf_25 ?_
          refine x_ior (pc := 26) dX0_lodgersOf_26 ?_
          rw [bitsN_t (by (try simp only [b2_e0, b2_n0, Decidable.not_not] at *) <;> (try simp only [i_lt, i_le, i_eq, not_and, not_or, ne_eq, il_0, il_1, il_2, il_3, il_4, il_5, il_6, il_7, il_8, il_9, il_10, il_14, il_15, il_19, il_20, il_24, il_30, il_31, il_44, il_48, il_49, il_52, il_57, il_59, il_60, il_70, il_99, il_100, il_103, il_108, il_114, il_m1, il_m2, il_m3, il_m4, il_m9, il_m10, il_m100] at *) <;> omega) (by simp [lodgP]; exact h19)]
          refine x_istore_n (pc := 27) (i := 2) (L' := [_, _, _, _]) dX0_lodgersOf_27 rfl (by decide) rfl ?_
          refine x_iinc (pc := 28) (L' := [_, _, _, _]) dX0_lodgersOf_28 (by decide) rfl (by first | exact nI_inc _ | rfl) rfl ?_
          refine x_goto (pc := 31) (tgt := 4) dX0_lodgersOf_31 (by decide) ?_
          first | exact ih (k + 1) (by (try simp only [b2_e0, b2_n0, Decidable.not_not] at *) <;> (try simp only [i_lt, i_le, i_eq, not_and, not_or, ne_eq, il_0, il_1, il_2, il_3, il_4, il_5, il_6, il_7, il_8, il_9, il_10, il_14, il_15, il_19, il_20, il_24, il_30, il_31, il_44, il_48, il_49, il_52, il_57, il_59, il_60, il_70, il_99, il_100, il_103, il_108, il_114, il_m1, il_m2, il_m3, il_m4, il_m9, il_m10, il_m100] at *) <;> omega) (by omega) | (rw [← bitsN_f (p := lodgP (arr w 15) b) (k := k) (by simp [lodgP]; exact h19)]; exact ih (k + 1) (by (try simp only [b2_e0, b2_n0, Decidable.not_not] at *) <;> (try simp only [i_lt, i_le, i_eq, not_and, not_or, ne_eq, il_0, il_1, il_2, il_3, il_4, il_5, il_6, il_7, il_8, il_9, il_10, il_14, il_15, il_19, il_20, il_24, il_30, il_31, il_44, il_48, il_49, il_52, il_57, il_59, il_60, il_70, il_99, il_100, il_103, il_108, il_114, il_m1, il_m2, il_m3, il_m4, il_m9, il_m10, il_m100] at *) <;> omega) (by omega))
  refine mC.of (L := [_, _, _, _]) okX0_lodgersOf 2 rfl rfl ?_
  refine x_iconst (pc := 0) (v := 0) dX0_lodgersOf_0 (by decide) ?_
  refine x_istore_n (pc := 1) (i := 2) (L' := [_, _, _, _]) dX0_lodgersOf_1 rfl (by decide) rfl ?_
  refine x_iconst (pc := 2) (v := 0) dX0_lodgersOf_2 (by decide) ?_
  refine x_istore_n (pc := 3) (i := 3) (L' := [_, _, _, _]) dX0_lodgersOf_3 rfl (by decide) rfl ?_
  exact lp (nw + 1) 0 (by omega) (by omega)
theorem c_X0_allLodgers_7 {d : Nat} {w : mW} {nw : Nat} (hS : Shape w) (tw : (fld w 7 1).toInt = (nw : Int)) (hnw : nw ≤ 5) : mC (d + 1) kX0_allLodgers [.ref 7] w (fun r w' => r = some (.int (nI (bitsN (inP (arr w 15) (fld w 7 0)) nw))) ∧ w' = w) := by
  have lp : ∀ (n k : Nat), k ≤ nw → nw < k + n → mJ mX0 (d + 1) kX0_allLodgers (fun r w' => r = some (.int (nI (bitsN (inP (arr w 15) (fld w 7 0)) nw))) ∧ w' = w) 4 [.ref 7, .int (nI (bitsN (inP (arr w 15) (fld w 7 0)) k)), .int (nI k)] [] w := by
    intro n
    induction n with
    | zero => intro k h1 h2; omega
    | succ n ih =>
      intro k hk1 hk2
      have tk : (nI k).toInt = (k : Int) := nI_toInt (by omega)
      have ck : (nI k).toNatClampNeg = k := nI_clamp (by omega)
      refine x_iload_n (pc := 4) (i := 2) dX0_allLodgers_4 rfl rfl ?_
      refine x_aload_n (pc := 5) (i := 0) dX0_allLodgers_5 rfl rfl ?_
      refine x_getI (pc := 6) hS fX0_43 dX0_allLodgers_6 rfl rfl ?_
      refine x_icmp_ge (pc := 9) (tgt := 37) dX0_allLodgers_9 (by decide) (fun h9 => ?_) (fun h9 => ?_)
      · refine x_iload_n (pc := 37) (i := 1) dX0_allLodgers_37 rfl rfl ?_
        refine x_ri (pc := 38) dX0_allLodgers_38 rfl rfl ?_
        exact ⟨by rw [show k = nw by (try simp only [b2_e0, b2_n0, Decidable.not_not] at *) <;> (try simp only [i_lt, i_le, i_eq, not_and, not_or, ne_eq, il_0, il_1, il_2, il_3, il_4, il_5, il_6, il_7, il_8, il_9, il_10, il_14, il_15, il_19, il_20, il_24, il_30, il_31, il_44, il_48, il_49, il_52, il_57, il_59, il_60, il_70, il_99, il_100, il_103, il_108, il_114, il_m1, il_m2, il_m3, il_m4, il_m9, il_m10, il_m100] at *) <;> omega], rfl⟩
      · refine x_aload_n (pc := 12) (i := 0) dX0_allLodgers_12 rfl rfl ?_
        refine x_aload_n (pc := 13) (i := 0) dX0_allLodgers_13 rfl rfl ?_
        refine x_getR (pc := 14) hS fX0_33 dX0_allLodgers_14 rfl rfl ?_
        refine x_iload_n (pc := 17) (i := 2) dX0_allLodgers_17 rfl rfl ?_
        refine x_ald (pc := 18) hS dX0_allLodgers_18 rfl (vp_in_nI (by (try simp only [b2_e0, b2_n0, Decidable.not_not] at *) <;> (try simp only [i_lt, i_le, i_eq, not_and, not_or, ne_eq, il_0, il_1, il_2, il_3, il_4, il_5, il_6, il_7, il_8, il_9, il_10, il_14, il_15, il_19, il_20, il_24, il_30, il_31, il_44, il_48, il_49, il_52, il_57, il_59, il_60, il_70, il_99, il_100, il_103, il_108, il_114, il_m1, il_m2, il_m3, il_m4, il_m9, il_m10, il_m100] at *) <;> omega) (by decide)) ?_
        rw [ck]
        refine x_vs (pc := 19) (As := [_]) rfl hS lX0_49 dX0_allLodgers_19 rfl rfl (by decide) (c_X0_hasBarrow_7 hS) ?_
        rintro _ _ ⟨rfl, hq⟩
        obtain rfl := hq.symm
        refine x_pushI ?_
        refine x_if_eq (pc := 22) (tgt := 31) dX0_allLodgers_22 (by decide) (fun h22 => ?_) (fun h22 => ?_)
        · refine x_iinc (pc := 31) (L' := [_, _, _]) dX0_allLodgers_31 (by decide) rfl (by first | exact nI_inc _ | rfl) rfl ?_
          refine x_goto (pc := 34) (tgt := 4) dX0_allLodgers_34 (by decide) ?_
          first | exact ih (k + 1) (by (try simp only [b2_e0, b2_n0, Decidable.not_not] at *) <;> (try simp only [i_lt, i_le, i_eq, not_and, not_or, ne_eq, il_0, il_1, il_2, il_3, il_4, il_5, il_6, il_7, il_8, il_9, il_10, il_14, il_15, il_19, il_20, il_24, il_30, il_31, il_44, il_48, il_49, il_52, il_57, il_59, il_60, il_70, il_99, il_100, il_103, il_108, il_114, il_m1, il_m2, il_m3, il_m4, il_m9, il_m10, il_m100] at *) <;> omega) (by omega) | (rw [← bitsN_f (p := inP (arr w 15) (fld w 7 0)) (k := k) (by simp only [inP, decide_eq_false_iff_not]; exact b2_e0.mp h22)]; exact ih (k + 1) (by (try simp only [b2_e0, b2_n0, Decidable.not_not] at *) <;> (try simp only [i_lt, i_le, i_eq, not_and, not_or, ne_eq, il_0, il_1, il_2, il_3, il_4, il_5, il_6, il_7, il_8, il_9, il_10, il_14, il_15, il_19, il_20, il_24, il_30, il_31, il_44, il_48, il_49, il_52, il_57, il_59, il_60, il_70, il_99, il_100, il_103, il_108, il_114, il_m1, il_m2, il_m3, il_m4, il_m9, il_m10, il_m100] at *) <;> omega) (by omega))
        · refine x_iload_n (pc := 25) (i := 1) dX0_allLodgers_25 rfl rfl ?_
          refine x_iconst (pc := 26) (v := 1) dX0_allLodgers_26 (by decide) ?_
          refine x_iload_n (pc := 27) (i := 2) dX0_allLodgers_27 rfl rfl ?_
          refine x_ishl (pc := 28) dX0_allLodgers_28 ?_
          refine x_ior (pc := 29) dX0_allLodgers_29 ?_
          rw [bitsN_t (by (try simp only [b2_e0, b2_n0, Decidable.not_not] at *) <;> (try simp only [i_lt, i_le, i_eq, not_and, not_or, ne_eq, il_0, il_1, il_2, il_3, il_4, il_5, il_6, il_7, il_8, il_9, il_10, il_14, il_15, il_19, il_20, il_24, il_30, il_31, il_44, il_48, il_49, il_52, il_57, il_59, il_60, il_70, il_99, il_100, il_103, il_108, il_114, il_m1, il_m2, il_m3, il_m4, il_m9, il_m10, il_m100] at *) <;> omega) (by simp only [inP, decide_eq_true_eq]; exact b2_n0.mp h22)]
          refine x_istore_n (pc := 30) (i := 1) (L' := [_, _, _]) dX0_allLodgers_30 rfl (by decide) rfl ?_
          refine x_iinc (pc := 31) (L' := [_, _, _]) dX0_allLodgers_31 (by decide) rfl (by first | exact nI_inc _ | rfl) rfl ?_
          refine x_goto (pc := 34) (tgt := 4) dX0_allLodgers_34 (by decide) ?_
          first | exact ih (k + 1) (by (try simp only [b2_e0, b2_n0, Decidable.not_not] at *) <;> (try simp only [i_lt, i_le, i_eq, not_and, not_or, ne_eq, il_0, il_1, il_2, il_3, il_4, il_5, il_6, il_7, il_8, il_9, il_10, il_14, il_15, il_19, il_20, il_24, il_30, il_31, il_44, il_48, il_49, il_52, il_57, il_59, il_60, il_70, il_99, il_100, il_103, il_108, il_114, il_m1, il_m2, il_m3, il_m4, il_m9, il_m10, il_m100] at *) <;> omega) (by omega) | (rw [← bitsN_f (p := inP (arr w 15) (fld w 7 0)) (k := k) (by simp only [inP, decide_eq_false_iff_not]; exact b2_e0.mp h22)]; exact ih (k + 1) (by (try simp only [b2_e0, b2_n0, Decidable.not_not] at *) <;> (try simp only [i_lt, i_le, i_eq, not_and, not_or, ne_eq, il_0, il_1, il_2, il_3, il_4, il_5, il_6, il_7, il_8, il_9, il_10, il_14, il_15, il_19, il_20, il_24, il_30, il_31, il_44, il_48, il_49, il_52, il_57, il_59, il_60, il_70, il_99, il_100, il_103, il_108, il_114, il_m1, il_m2, il_m3, il_m4, il_m9, il_m10, il_m100] at *) <;> omega) (by omega))
  refine mC.of (L := [_, _, _]) okX0_allLodgers 2 rfl rfl ?_
  refine x_iconst (pc := 0) (v := 0) dX0_allLodgers_0 (by decide) ?_
  refine x_istore_n (pc := 1) (i := 1) (L' := [_, _, _]) dX0_allLodgers_1 rfl (by decide) rfl ?_
  refine x_iconst (pc := 2) (v := 0) dX0_allLodgers_2 (by decide) ?_
  refine x_istore_n (pc := 3) (i := 2) (L' := [_, _, _]) dX0_allLodgers_3 rfl (by decide) rfl ?_
  exact lp (nw + 1) 0 (by omega) (by omega)
theorem c_X0_lodgersOf_18 {d : Nat} {w : mW} {b : Int32} {nw : Nat} (hS : Shape w) (tw : (fld w 18 1).toInt = (nw : Int)) (hnw : nw ≤ 5) : mC d kX0_lodgersOf [.ref 18, .int b] w (fun r w' => r = some (.int (nI (bitsN (lodgP (arr w 26) b) nw))) ∧ w' = w) := by
  have lp : ∀ (n k : Nat), k ≤ nw → nw < k + n → mJ mX0 d kX0_lodgersOf (fun r w' => r = some (.int (nI (bitsN (lodgP (arr w 26) b) nw))) ∧ w' = w) 4 [.ref 18, .int b, .int (nI (bitsN (lodgP (arr w 26) b) k)), .int (nI k)] [] w := by
    intro n
    induction n with
    | zero => intro k h1 h2; omega
    | succ n ih =>
      intro k hk1 hk2
      have tk : (nI k).toInt = (k : Int) := nI_toInt (by omega)
      have ck : (nI k).toNatClampNeg = k := nI_clamp (by omega)
      refine x_iload_n (pc := 4) (i := 3) dX0_lodgersOf_4 rfl rfl ?_
      refine x_aload_n (pc := 5) (i := 0) dX0_lodgersOf_5 rfl rfl ?_
      refine x_getI (pc := 6) hS fX0_43 dX0_lodgersOf_6 rfl rfl ?_
      refine x_icmp_ge (pc := 9) (tgt := 34) dX0_lodgersOf_9 (by decide) (fun h9 => ?_) (fun h9 => ?_)
      · refine x_iload_n (pc := 34) (i := 2) dX0_lodgersOf_34 rfl rfl ?_
        refine x_ri (pc := 35) dX0_lodgersOf_35 rfl rfl ?_
        exact ⟨by rw [show k = nw by (try simp only [b2_e0, b2_n0, Decidable.not_not] at *) <;> (try simp only [i_lt, i_le, i_eq, not_and, not_or, ne_eq, il_0, il_1, il_2, il_3, il_4, il_5, il_6, il_7, il_8, il_9, il_10, il_14, il_15, il_19, il_20, il_24, il_30, il_31, il_44, il_48, il_49, il_52, il_57, il_59, il_60, il_70, il_99, il_100, il_103, il_108, il_114, il_m1, il_m2, il_m3, il_m4, il_m9, il_m10, il_m100] at *) <;> omega], rfl⟩
      · refine x_aload_n (pc := 12) (i := 0) dX0_lodgersOf_12 rfl rfl ?_
        refine x_getR (pc := 13) hS fX0_33 dX0_lodgersOf_13 rfl rfl ?_
        refine x_iload_n (pc := 16) (i := 3) dX0_lodgersOf_16 rfl rfl ?_
        refine x_ald (pc := 17) hS dX0_lodgersOf_17 rfl (vp_in_nI (by (try simp only [b2_e0, b2_n0, Decidable.not_not] at *) <;> (try simp only [i_lt, i_le, i_eq, not_and, not_or, ne_eq, il_0, il_1, il_2, il_3, il_4, il_5, il_6, il_7, il_8, il_9, il_10, il_14, il_15, il_19, il_20, il_24, il_30, il_31, il_44, il_48, il_49, il_52, il_57, il_59, il_60, il_70, il_99, il_100, il_103, il_108, il_114, il_m1, il_m2, il_m3, il_m4, il_m9, il_m10, il_m100] at *) <;> omega) (by decide)) ?_
        rw [ck]
        refine x_iload_n (pc := 18) (i := 1) dX0_lodgersOf_18 rfl rfl ?_
        refine x_icmp_ne (pc := 19) (tgt := 28) dX0_lodgersOf_19 (by decide) (fun h19 => ?_) (fun h19 => ?_)
        · refine x_iinc (pc := 28) (L' := [_, _, _, _]) dX0_lodgersOf_28 (by decide) rfl (by first | exact nI_inc _ | rfl) rfl ?_
          refine x_goto (pc := 31) (tgt := 4) dX0_lodgersOf_31 (by decide) ?_
          first | exact ih (k + 1) (by (try simp only [b2_e0, b2_n0, Decidable.not_not] at *) <;> (try simp only [i_lt, i_le, i_eq, not_and, not_or, ne_eq, il_0, il_1, il_2, il_3, il_4, il_5, il_6, il_7, il_8, il_9, il_10, il_14, il_15, il_19, il_20, il_24, il_30, il_31, il_44, il_48, il_49, il_52, il_57, il_59, il_60, il_70, il_99, il_100, il_103, il_108, il_114, il_m1, il_m2, il_m3, il_m4, il_m9, il_m10, il_m100] at *) <;> omega) (by omega) | (rw [← bitsN_f (p := lodgP (arr w 26) b) (k := k) (by simp [lodgP]; exact h19)]; exact ih (k + 1) (by (try simp only [b2_e0, b2_n0, Decidable.not_not] at *) <;> (try simp only [i_lt, i_le, i_eq, not_and, not_or, ne_eq, il_0, il_1, il_2, il_3, il_4, il_5, il_6, il_7, il_8, il_9, il_10, il_14, il_15, il_19, il_20, il_24, il_30, il_31, il_44, il_48, il_49, il_52, il_57, il_59, il_60, il_70, il_99, il_100, il_103, il_108, il_114, il_m1, il_m2, il_m3, il_m4, il_m9, il_m10, il_m100] at *) <;> omega) (by omega))
        · refine x_iload_n (pc := 22) (i := 2) dX0_lodgersOf_22 rfl rfl ?_
          refine x_iconst (pc := 23) (v := 1) dX0_lodgersOf_23 (by decide) ?_
          refine x_iload_n (pc := 24) (i := 3) dX0_lodgersOf_24 rfl rfl ?_
          refine x_ishl (pc := 25) dX0_lodgersOf_25 ?_
          refine x_ior (pc := 26) dX0_lodgersOf_26 ?_
          rw [bitsN_t (by (try simp only [b2_e0, b2_n0, Decidable.not_not] at *) <;> (try simp only [i_lt, i_le, i_eq, not_and, not_or, ne_eq, il_0, il_1, il_2, il_3, il_4, il_5, il_6, il_7, il_8, il_9, il_10, il_14, il_15, il_19, il_20, il_24, il_30, il_31, il_44, il_48, il_49, il_52, il_57, il_59, il_60, il_70, il_99, il_100, il_103, il_108, il_114, il_m1, il_m2, il_m3, il_m4, il_m9, il_m10, il_m100] at *) <;> omega) (by simp [lodgP]; exact h19)]
          refine x_istore_n (pc := 27) (i := 2) (L' := [_, _, _, _]) dX0_lodgersOf_27 rfl (by decide) rfl ?_
          refine x_iinc (pc := 28) (L' := [_, _, _, _]) dX0_lodgersOf_28 (by decide) rfl (by first | exact nI_inc _ | rfl) rfl ?_
          refine x_goto (pc := 31) (tgt := 4) dX0_lodgersOf_31 (by decide) ?_
          first | exact ih (k + 1) (by (try simp only [b2_e0, b2_n0, Decidable.not_not] at *) <;> (try simp only [i_lt, i_le, i_eq, not_and, not_or, ne_eq, il_0, il_1, il_2, il_3, il_4, il_5, il_6, il_7, il_8, il_9, il_10, il_14, il_15, il_19, il_20, il_24, il_30, il_31, il_44, il_48, il_49, il_52, il_57, il_59, il_60, il_70, il_99, il_100, il_103, il_108, il_114, il_m1, il_m2, il_m3, il_m4, il_m9, il_m10, il_m100] at *) <;> omega) (by omega) | (rw [← bitsN_f (p := lodgP (arr w 26) b) (k := k) (by simp [lodgP]; exact h19)]; exact ih (k + 1) (by (try simp only [b2_e0, b2_n0, Decidable.not_not] at *) <;> (try simp only [i_lt, i_le, i_eq, not_and, not_or, ne_eq, il_0, il_1, il_2, il_3, il_4, il_5, il_6, il_7, il_8, il_9, il_10, il_14, il_15, il_19, il_20, il_24, il_30, il_31, il_44, il_48, il_49, il_52, il_57, il_59, il_60, il_70, il_99, il_100, il_103, il_108, il_114, il_m1, il_m2, il_m3, il_m4, il_m9, il_m10, il_m100] at *) <;> omega) (by omega))
  refine mC.of (L := [_, _, _, _]) okX0_lodgersOf 2 rfl rfl ?_
  refine x_iconst (pc := 0) (v := 0) dX0_lodgersOf_0 (by decide) ?_
  refine x_istore_n (pc := 1) (i := 2) (L' := [_, _, _, _]) dX0_lodgersOf_1 rfl (by decide) rfl ?_
  refine x_iconst (pc := 2) (v := 0) dX0_lodgersOf_2 (by decide) ?_
  refine x_istore_n (pc := 3) (i := 3) (L' := [_, _, _, _]) dX0_lodgersOf_3 rfl (by decide) rfl ?_
  exact lp (nw + 1) 0 (by omega) (by omega)
theorem c_X0_allLodgers_18 {d : Nat} {w : mW} {nw : Nat} (hS : Shape w) (tw : (fld w 18 1).toInt = (nw : Int)) (hnw : nw ≤ 5) : mC (d + 1) kX0_allLodgers [.ref 18] w (fun r w' => r = some (.int (nI (bitsN (inP (arr w 26) (fld w 18 0)) nw))) ∧ w' = w) := by
  have lp : ∀ (n k : Nat), k ≤ nw → nw < k + n → mJ mX0 (d + 1) kX0_allLodgers (fun r w' => r = some (.int (nI (bitsN (inP (arr w 26) (fld w 18 0)) nw))) ∧ w' = w) 4 [.ref 18, .int (nI (bitsN (inP (arr w 26) (fld w 18 0)) k)), .int (nI k)] [] w := by
    intro n
    induction n with
    | zero => intro k h1 h2; omega
    | succ n ih =>
      intro k hk1 hk2
      have tk : (nI k).toInt = (k : Int) := nI_toInt (by omega)
      have ck : (nI k).toNatClampNeg = k := nI_clamp (by omega)
      refine x_iload_n (pc := 4) (i := 2) dX0_allLodgers_4 rfl rfl ?_
      refine x_aload_n (pc := 5) (i := 0) dX0_allLodgers_5 rfl rfl ?_
      refine x_getI (pc := 6) hS fX0_43 dX0_allLodgers_6 rfl rfl ?_
      refine x_icmp_ge (pc := 9) (tgt := 37) dX0_allLodgers_9 (by decide) (fun h9 => ?_) (fun h9 => ?_)
      · refine x_iload_n (pc := 37) (i := 1) dX0_allLodgers_37 rfl rfl ?_
        refine x_ri (pc := 38) dX0_allLodgers_38 rfl rfl ?_
        exact ⟨by rw [show k = nw by (try simp only [b2_e0, b2_n0, Decidable.not_not] at *) <;> (try simp only [i_lt, i_le, i_eq, not_and, not_or, ne_eq, il_0, il_1, il_2, il_3, il_4, il_5, il_6, il_7, il_8, il_9, il_10, il_14, il_15, il_19, il_20, il_24, il_30, il_31, il_44, il_48, il_49, il_52, il_57, il_59, il_60, il_70, il_99, il_100, il_103, il_108, il_114, il_m1, il_m2, il_m3, il_m4, il_m9, il_m10, il_m100] at *) <;> omega], rfl⟩
      · refine x_aload_n (pc := 12) (i := 0) dX0_allLodgers_12 rfl rfl ?_
        refine x_aload_n (pc := 13) (i := 0) dX0_allLodgers_13 rfl rfl ?_
        refine x_getR (pc := 14) hS fX0_33 dX0_allLodgers_14 rfl rfl ?_
        refine x_iload_n (pc := 17) (i := 2) dX0_allLodgers_17 rfl rfl ?_
        refine x_ald (pc := 18) hS dX0_allLodgers_18 rfl (vp_in_nI (by (try simp only [b2_e0, b2_n0, Decidable.not_not] at *) <;> (try simp only [i_lt, i_le, i_eq, not_and, not_or, ne_eq, il_0, il_1, il_2, il_3, il_4, il_5, il_6, il_7, il_8, il_9, il_10, il_14, il_15, il_19, il_20, il_24, il_30, il_31, il_44, il_48, il_49, il_52, il_57, il_59, il_60, il_70, il_99, il_100, il_103, il_108, il_114, il_m1, il_m2, il_m3, il_m4, il_m9, il_m10, il_m100] at *) <;> omega) (by decide)) ?_
        rw [ck]
        refine x_vs (pc := 19) (As := [_]) rfl hS lX0_49 dX0_allLodgers_19 rfl rfl (by decide) (c_X0_hasBarrow_18 hS) ?_
        rintro _ _ ⟨rfl, hq⟩
        obtain rfl := hq.symm
        refine x_pushI ?_
        refine x_if_eq (pc := 22) (tgt := 31) dX0_allLodgers_22 (by decide) (fun h22 => ?_) (fun h22 => ?_)
        · refine x_iinc (pc := 31) (L' := [_, _, _]) dX0_allLodgers_31 (by decide) rfl (by first | exact nI_inc _ | rfl) rfl ?_
          refine x_goto (pc := 34) (tgt := 4) dX0_allLodgers_34 (by decide) ?_
          first | exact ih (k + 1) (by (try simp only [b2_e0, b2_n0, Decidable.not_not] at *) <;> (try simp only [i_lt, i_le, i_eq, not_and, not_or, ne_eq, il_0, il_1, il_2, il_3, il_4, il_5, il_6, il_7, il_8, il_9, il_10, il_14, il_15, il_19, il_20, il_24, il_30, il_31, il_44, il_48, il_49, il_52, il_57, il_59, il_60, il_70, il_99, il_100, il_103, il_108, il_114, il_m1, il_m2, il_m3, il_m4, il_m9, il_m10, il_m100] at *) <;> omega) (by omega) | (rw [← bitsN_f (p := inP (arr w 26) (fld w 18 0)) (k := k) (by simp only [inP, decide_eq_false_iff_not]; exact b2_e0.mp h22)]; exact ih (k + 1) (by (try simp only [b2_e0, b2_n0, Decidable.not_not] at *) <;> (try simp only [i_lt, i_le, i_eq, not_and, not_or, ne_eq, il_0, il_1, il_2, il_3, il_4, il_5, il_6, il_7, il_8, il_9, il_10, il_14, il_15, il_19, il_20, il_24, il_30, il_31, il_44, il_48, il_49, il_52, il_57, il_59, il_60, il_70, il_99, il_100, il_103, il_108, il_114, il_m1, il_m2, il_m3, il_m4, il_m9, il_m10, il_m100] at *) <;> omega) (by omega))
        · refine x_iload_n (pc := 25) (i := 1) dX0_allLodgers_25 rfl rfl ?_
          refine x_iconst (pc := 26) (v := 1) dX0_allLodgers_26 (by decide) ?_
          refine x_iload_n (pc := 27) (i := 2) dX0_allLodgers_27 rfl rfl ?_
          refine x_ishl (pc := 28) dX0_allLodgers_28 ?_
          refine x_ior (pc := 29) dX0_allLodgers_29 ?_
          rw [bitsN_t (by (try simp only [b2_e0, b2_n0, Decidable.not_not] at *) <;> (try simp only [i_lt, i_le, i_eq, not_and, not_or, ne_eq, il_0, il_1, il_2, il_3, il_4, il_5, il_6, il_7, il_8, il_9, il_10, il_14, il_15, il_19, il_20, il_24, il_30, il_31, il_44, il_48, il_49, il_52, il_57, il_59, il_60, il_70, il_99, il_100, il_103, il_108, il_114, il_m1, il_m2, il_m3, il_m4, il_m9, il_m10, il_m100] at *) <;> omega) (by simp only [inP, decide_eq_true_eq]; exact b2_n0.mp h22)]
          refine x_istore_n (pc := 30) (i := 1) (L' := [_, _, _]) dX0_allLodgers_30 rfl (by decide) rfl ?_
          refine x_iinc (pc := 31) (L' := [_, _, _]) dX0_allLodgers_31 (by decide) rfl (by first | exact nI_inc _ | rfl) rfl ?_
          refine x_goto (pc := 34) (tgt := 4) dX0_allLodgers_34 (by decide) ?_
          first | exact ih (k + 1) (by (try simp only [b2_e0, b2_n0, Decidable.not_not] at *) <;> (try simp only [i_lt, i_le, i_eq, not_and, not_or, ne_eq, il_0, il_1, il_2, il_3, il_4, il_5, il_6, il_7, il_8, il_9, il_10, il_14, il_15, il_19, il_20, il_24, il_30, il_31, il_44, il_48, il_49, il_52, il_57, il_59, il_60, il_70, il_99, il_100, il_103, il_108, il_114, il_m1, il_m2, il_m3, il_m4, il_m9, il_m10, il_m100] at *) <;> omega) (by omega) | (rw [← bitsN_f (p := inP (arr w 26) (fld w 18 0)) (k := k) (by simp only [inP, decide_eq_false_iff_not]; exact b2_e0.mp h22)]; exact ih (k + 1) (by (try simp only [b2_e0, b2_n0, Decidable.not_not] at *) <;> (try simp only [i_lt, i_le, i_eq, not_and, not_or, ne_eq, il_0, il_1, il_2, il_3, il_4, il_5, il_6, il_7, il_8, il_9, il_10, il_14, il_15, il_19, il_20, il_24, il_30, il_31, il_44, il_48, il_49, il_52, il_57, il_59, il_60, il_70, il_99, il_100, il_103, il_108, il_114, il_m1, il_m2, il_m3, il_m4, il_m9, il_m10, il_m100] at *) <;> omega) (by omega))
  refine mC.of (L := [_, _, _]) okX0_allLodgers 2 rfl rfl ?_
  refine x_iconst (pc := 0) (v := 0) dX0_allLodgers_0 (by decide) ?_
  refine x_istore_n (pc := 1) (i := 1) (L' := [_, _, _]) dX0_allLodgers_1 rfl (by decide) rfl ?_
  refine x_iconst (pc := 2) (v := 0) dX0_allLodgers_2 (by decide) ?_
  refine x_istore_n (pc := 3) (i := 2) (L' := [_, _, _]) dX0_allLodgers_3 rfl (by decide) rfl ?_
  exact lp (nw + 1) 0 (by omega) (by omega)

