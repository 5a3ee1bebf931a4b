-- the reference: the same
theorem or0 (x : Int32) : x ||| 0 = x := by simp
theorem i_decS (x : Int32) : x + Int32.ofInt (-1) = x - 1 := by rw [Int32.sub_eq_add_neg]; rfl
theorem i_m1 : nI 0 - 1 = -1 := rfl
theorem c_X8_lodgersOf {d : Nat} {w : mW} {b : Int32} {nw : Nat} (hS : Shape w) (tw : (fld w 44 6).toInt = (nw : Int)) (hnw : nw ≤ 5) : mC d kX8_lodgersOf [.ref 44, .int b] w (fun r w' => r = some (.int (nI (bitsN (lodgP (arr w 55) b) nw))) ∧ w' = w) := by
  have lp : ∀ (n k : Nat), k ≤ nw → nw < k + n → mJ mX0 d kX8_lodgersOf (fun r w' => r = some (.int (nI (bitsN (lodgP (arr w 55) b) nw))) ∧ w' = w) 4 [.ref 44, .int b, .int (nI (bitsN (lodgP (arr w 55) b) k)), .int (nI k)] [] w := by
    intro n
    induction n with
    | zero => intro k h1 h2; omega
    | succ n ih =>
      intro k hk1 hk2
      have tk : (nI k).toInt = (k : Int) := nI_toInt (by omega)
      refine x_iload_n (pc := 4) (i := 3) dX8_lodgersOf_4 rfl rfl ?_
      refine x_aload_n (pc := 5) (i := 0) dX8_lodgersOf_5 rfl rfl ?_
      refine x_getI (pc := 6) hS fX8_95 dX8_lodgersOf_6 rfl rfl ?_
      refine x_icmp_ge (pc := 9) (tgt := 38) dX8_lodgersOf_9 (by decide) (fun h9 => ?_) (fun h9 => ?_)
      · refine x_iload_n (pc := 38) (i := 2) dX8_lodgersOf_38 rfl rfl ?_
        refine x_ri (pc := 39) dX8_lodgersOf_39 rfl rfl ?_
        exact ⟨by rw [show k = nw by (try simp only [b2_e0, b2_n0, Decidable.not_not] at *) <;> (try simp only [i_lt, i_le, i_eq, not_and, not_or, ne_eq, il_0, il_1, il_2, il_3, il_4, il_5, il_6, il_7, il_8, il_9, il_10, il_14, il_15, il_19, il_20, il_24, il_30, il_31, il_44, il_48, il_49, il_52, il_57, il_59, il_60, il_70, il_99, il_100, il_103, il_108, il_114, il_m1, il_m2, il_m3, il_m4, il_m9, il_m10, il_m100] at *) <;> omega], rfl⟩
      · have hkn : k < nw := by (try simp only [b2_e0, b2_n0, Decidable.not_not] at *) <;> (try simp only [i_lt, i_le, i_eq, not_and, not_or, ne_eq, il_0, il_1, il_2, il_3, il_4, il_5, il_6, il_7, il_8, il_9, il_10, il_14, il_15, il_19, il_20, il_24, il_30, il_31, il_44, il_48, il_49, il_52, il_57, il_59, il_60, il_70, il_99, il_100, il_103, il_108, il_114, il_m1, il_m2, il_m3, il_m4, il_m9, il_m10, il_m100] at *) <;> omega
        refine x_iload_n (pc := 12) (i := 2) dX8_lodgersOf_12 rfl rfl ?_
        refine x_aload_n (pc := 13) (i := 0) dX8_lodgersOf_13 rfl rfl ?_
        refine x_getR (pc := 14) hS fX8_40 dX8_lodgersOf_14 rfl rfl ?_
        refine x_iload_n (pc := 17) (i := 3) dX8_lodgersOf_17 rfl rfl ?_
        refine x_aldN (pc := 18) hS dX8_lodgersOf_18 rfl (by omega) (by decide) ?_
        refine x_iload_n (pc := 19) (i := 1) dX8_lodgersOf_19 rfl rfl ?_
        refine x_icmp_ne (pc := 20) (tgt := 29) dX8_lodgersOf_20 (by decide) (fun h20 => ?_) (fun h20 => ?_)
        · refine x_iconst (pc := 29) (v := 0) dX8_lodgersOf_29 (by decide) ?_
          refine x_ior (pc := 30) dX8_lodgersOf_30 ?_
          refine x_istore_n (pc := 31) (i := 2) (L' := [_, _, _, _]) dX8_lodgersOf_31 rfl (by decide) rfl ?_
          refine x_iinc (pc := 32) (L' := [_, _, _, _]) dX8_lodgersOf_32 (by decide) rfl (by first | exact nI_inc _ | rfl) rfl ?_
          refine x_goto (pc := 35) (tgt := 4) dX8_lodgersOf_35 (by decide) ?_
          have h9 := ih (k + 1) (by omega) (by omega)
          by_cases hp : lodgP (arr w 55) b k = true
          · rw [← bitsN_t (by omega) hp] at h9; first | exact h9 | exact absurd (by simpa [lodgP] using hp) h20
          · rw [bitsN_f (by simpa using hp)] at h9; first | (rw [or0]; exact h9) | exact absurd h20 (by simpa [lodgP] using hp)
        · refine x_iconst (pc := 23) (v := 1) dX8_lodgersOf_23 (by decide) ?_
          refine x_iload_n (pc := 24) (i := 3) dX8_lodgersOf_24 rfl rfl ?_
          refine x_ishl (pc := 25) dX8_lodgersOf_25 ?_
          refine x_goto (pc := 26) (tgt := 30) dX8_lodgersOf_26 (by decide) ?_
          refine x_ior (pc := 30) dX8_lodgersOf_30 ?_
          refine x_istore_n (pc := 31) (i := 2) (L' := [_, _, _, _]) dX8_lodgersOf_31 rfl (by decide) rfl ?_
          refine x_iinc (pc := 32) (L' := [_, _, _, _]) dX8_lodgersOf_32 (by decide) rfl (by first | exact nI_inc _ | rfl) rfl ?_
          refine x_goto (pc := 35) (tgt := 4) dX8_lodgersOf_35 (by decide) ?_
          have h9 := ih (k + 1) (by omega) (by omega)
          by_cases hp : lodgP (arr w 55) b k = true
          · rw [← bitsN_t (by omega) hp] at h9; first | exact h9 | exact absurd (by simpa [lodgP] using hp) h20
          · rw [bitsN_f (by simpa using hp)] at h9; first | (rw [or0]; exact h9) | exact absurd h20 (by simpa [lodgP] using hp)
  refine mC.of (L := [_, _, _, _]) okX8_lodgersOf 2 rfl rfl ?_
  refine x_iconst (pc := 0) (v := 0) dX8_lodgersOf_0 (by decide) ?_
  refine x_istore_n (pc := 1) (i := 2) (L' := [_, _, _, _]) dX8_lodgersOf_1 rfl (by decide) rfl ?_
  refine x_iconst (pc := 2) (v := 0) dX8_lodgersOf_2 (by decide) ?_
  refine x_istore_n (pc := 3) (i := 3) (L' := [_, _, _, _]) dX8_lodgersOf_3 rfl (by decide) rfl ?_
  exact lp (nw + 1) 0 (by omega) (by omega)
def someP (f : Nat → Int32) : Nat → Bool := fun j => decide (¬ f j = -9)
theorem c_X8_whoLodges {d : Nat} {w : mW} {nw : Nat} (hS : Shape w) (tw : (fld w 44 6).toInt = (nw : Int)) (hnw : nw ≤ 5) : mC d kX8_whoLodges [.ref 44] w (fun r w' => r = some (.int (nI (bitsN (someP (arr w 55)) nw))) ∧ w' = w) := by
  have lp : ∀ (n k : Nat), k ≤ nw → nw < k + n → mJ mX0 d kX8_whoLodges (fun r w' => r = some (.int (nI (bitsN (someP (arr w 55)) nw))) ∧ w' = w) 4 [.ref 44, .int (nI (bitsN (someP (arr w 55)) k)), .int (nI k)] [] w := by
    intro n
    induction n with
    | zero => intro k h1 h2; omega
    | succ n ih =>
      intro k hk1 hk2
      have tk : (nI k).toInt = (k : Int) := nI_toInt (by omega)
      refine x_iload_n (pc := 4) (i := 2) dX8_whoLodges_4 rfl rfl ?_
      refine x_aload_n (pc := 5) (i := 0) dX8_whoLodges_5 rfl rfl ?_
      refine x_getI (pc := 6) hS fX8_95 dX8_whoLodges_6 rfl rfl ?_
      refine x_icmp_ge (pc := 9) (tgt := 39) dX8_whoLodges_9 (by decide) (fun h9 => ?_) (fun h9 => ?_)
      · refine x_iload_n (pc := 39) (i := 1) dX8_whoLodges_39 rfl rfl ?_
        refine x_ri (pc := 40) dX8_whoLodges_40 rfl rfl ?_
        exact ⟨by rw [show k = nw by (try simp only [b2_e0, b2_n0, Decidable.not_not] at *) <;> (try simp only [i_lt, i_le, i_eq, not_and, not_or, ne_eq, il_0, il_1, il_2, il_3, il_4, il_5, il_6, il_7, il_8, il_9, il_10, il_14, il_15, il_19, il_20, il_24, il_30, il_31, il_44, il_48, il_49, il_52, il_57, il_59, il_60, il_70, il_99, il_100, il_103, il_108, il_114, il_m1, il_m2, il_m3, il_m4, il_m9, il_m10, il_m100] at *) <;> omega], rfl⟩
      · have hkn : k < nw := by (try simp only [b2_e0, b2_n0, Decidable.not_not] at *) <;> (try simp only [i_lt, i_le, i_eq, not_and, not_or, ne_eq, il_0, il_1, il_2, il_3, il_4, il_5, il_6, il_7, il_8, il_9, il_10, il_14, il_15, il_19, il_20, il_24, il_30, il_31, il_44, il_48, il_49, il_52, il_57, il_59, il_60, il_70, il_99, il_100, il_103, il_108, il_114, il_m1, il_m2, il_m3, il_m4, il_m9, il_m10, il_m100] at *) <;> omega
        refine x_iload_n (pc := 12) (i := 1) dX8_whoLodges_12 rfl rfl ?_
        refine x_aload_n (pc := 13) (i := 0) dX8_whoLodges_13 rfl rfl ?_
        refine x_getR (pc := 14) hS fX8_40 dX8_whoLodges_14 rfl rfl ?_
        refine x_iload_n (pc := 17) (i := 2) dX8_whoLodges_17 rfl rfl ?_
        refine x_aldN (pc := 18) hS dX8_whoLodges_18 rfl (by omega) (by decide) ?_
        refine x_bipush (pc := 19) (v := (-9)) dX8_whoLodges_19 (by decide) ?_
        refine x_icmp_ne (pc := 21) (tgt := 28) dX8_whoLodges_21 (by decide) (fun h21 => ?_) (fun h21 => ?_)
        · refine x_iconst (pc := 28) (v := 1) dX8_whoLodges_28 (by decide) ?_
          refine x_iload_n (pc := 29) (i := 2) dX8_whoLodges_29 rfl rfl ?_
          refine x_ishl (pc := 30) dX8_whoLodges_30 ?_
          refine x_ior (pc := 31) dX8_whoLodges_31 ?_
          refine x_istore_n (pc := 32) (i := 1) (L' := [_, _, _]) dX8_whoLodges_32 rfl (by decide) rfl ?_
          refine x_iinc (pc := 33) (L' := [_, _, _]) dX8_whoLodges_33 (by decide) rfl (by first | exact nI_inc _ | rfl) rfl ?_
          refine x_goto (pc := 36) (tgt := 4) dX8_whoLodges_36 (by decide) ?_
          have h9 := ih (k + 1) (by omega) (by omega)
          by_cases hp : someP (arr w 55) k = true
          · rw [← bitsN_t (by omega) hp] at h9; first | exact h9 | exact absurd h21 (by simpa [someP] using hp)
          · rw [bitsN_f (by simpa using hp)] at h9; first | (rw [or0]; exact h9) | exact absurd (by simpa [someP] using hp) h21
        · refine x_iconst (pc := 24) (v := 0) dX8_whoLodges_24 (by decide) ?_
          refine x_goto (pc := 25) (tgt := 31) dX8_whoLodges_25 (by decide) ?_
          refine x_ior (pc := 31) dX8_whoLodges_31 ?_
          refine x_istore_n (pc := 32) (i := 1) (L' := [_, _, _]) dX8_whoLodges_32 rfl (by decide) rfl ?_
          refine x_iinc (pc := 33) (L' := [_, _, _]) dX8_whoLodges_33 (by decide) rfl (by first | exact nI_inc _ | rfl) rfl ?_
          refine x_goto (pc := 36) (tgt := 4) dX8_whoLodges_36 (by decide) ?_
          have h9 := ih (k + 1) (by omega) (by omega)
          by_cases hp : someP (arr w 55) k = true
          · rw [← bitsN_t (by omega) hp] at h9; first | exact h9 | exact absurd h21 (by simpa [someP] using hp)
          · rw [bitsN_f (by simpa using hp)] at h9; first | (rw [or0]; exact h9) | exact absurd (by simpa [someP] using hp) h21
  refine mC.of (L := [_, _, _]) okX8_whoLodges 2 rfl rfl ?_
  refine x_iconst (pc := 0) (v := 0) dX8_whoLodges_0 (by decide) ?_
  refine x_istore_n (pc := 1) (i := 1) (L' := [_, _, _]) dX8_whoLodges_1 rfl (by decide) rfl ?_
  refine x_iconst (pc := 2) (v := 0) dX8_whoLodges_2 (by decide) ?_
  refine x_istore_n (pc := 3) (i := 2) (L' := [_, _, _]) dX8_whoLodges_3 rfl (by decide) rfl ?_
  exact lp (nw + 1) 0 (by omega) (by omega)
def dreamN (f : Nat → Int32) (v : Int32) : Nat → Int32
  | 0 => 10 + v
  | q + 1 => if f q = v then nI q else dreamN f v q
theorem c_X8_dreamOf_55 {d : Nat} {w : mW} {j : Nat} (hS : Shape w) (hj : j < 5) : mC d kX8_dreamOf [.ref 55, .int (nI j)] w (fun r w' => r = some (.int (dreamN (arr w 55) (arr w 55 j) j)) ∧ w' = w) := by
  have lp : ∀ q, q ≤ j → dreamN (arr w 55) (arr w 55 j) j = dreamN (arr w 55) (arr w 55 j) q → mJ mX0 d kX8_dreamOf (fun r w' => r = some (.int (dreamN (arr w 55) (arr w 55 j) j)) ∧ w' = w) 4 [.ref 55, .int (nI j), .int (nI q - 1)] [] w := by
    intro q
    induction q with
    | zero =>
      intro hq he
      rw [i_m1]
      refine x_iload_n (pc := 4) (i := 2) dX8_dreamOf_4 rfl rfl ?_
      refine x_if_lt (pc := 5) (tgt := 25) dX8_dreamOf_5 (by decide) (fun h5 => ?_) (fun h5 => absurd h5 (by decide))
      refine x_bipush (pc := 25) (v := 10) dX8_dreamOf_25 (by decide) ?_
      refine x_aload_n (pc := 27) (i := 0) dX8_dreamOf_27 rfl rfl ?_
      refine x_iload_n (pc := 28) (i := 1) dX8_dreamOf_28 rfl rfl ?_
      refine x_aldN (pc := 29) hS dX8_dreamOf_29 rfl (by omega) (by decide) ?_
      refine x_iadd (pc := 30) dX8_dreamOf_30 ?_
      refine x_ri (pc := 31) dX8_dreamOf_31 rfl rfl ?_
      exact ⟨by rw [he]; rfl, rfl⟩
    | succ q ih =>
      intro hq he
      rw [nI_pred]
      have tk : (nI q).toInt = (q : Int) := nI_toInt (by omega)
      refine x_iload_n (pc := 4) (i := 2) dX8_dreamOf_4 rfl rfl ?_
      refine x_if_lt (pc := 5) (tgt := 25) dX8_dreamOf_5 (by decide) (fun h5 => absurd h5 (by (try simp only [b2_e0, b2_n0, Decidable.not_not] at *) <;> (try simp only [i_lt, i_le, i_eq, not_and, not_or, ne_eq, il_0, il_1, il_2, il_3, il_4, il_5, il_6, il_7, il_8, il_9, il_10, il_14, il_15, il_19, il_20, il_24, il_30, il_31, il_44, il_48, il_49, il_52, il_57, il_59, il_60, il_70, il_99, il_100, il_103, il_108, il_114, il_m1, il_m2, il_m3, il_m4, il_m9, il_m10, il_m100] at *) <;> omega)) (fun h5 => ?_)
      refine x_aload_n (pc := 8) (i := 0) dX8_dreamOf_8 rfl rfl ?_
      refine x_iload_n (pc := 9) (i := 2) dX8_dreamOf_9 rfl rfl ?_
      refine x_aldN (pc := 10) hS dX8_dreamOf_10 rfl (by omega) (by decide) ?_
      refine x_aload_n (pc := 11) (i := 0) dX8_dreamOf_11 rfl rfl ?_
      refine x_iload_n (pc := 12) (i := 1) dX8_dreamOf_12 rfl rfl ?_
      refine x_aldN (pc := 13) hS dX8_dreamOf_13 rfl (by omega) (by decide) ?_
      refine x_icmp_ne (pc := 14) (tgt := 19) dX8_dreamOf_14 (by decide) (fun h14 => ?_) (fun h14 => ?_)
      · refine x_iinc (pc := 19) (L' := [_, _, _]) dX8_dreamOf_19 (by decide) rfl (i_decS _) rfl ?_
        refine x_goto (pc := 22) (tgt := 4) dX8_dreamOf_22 (by decide) ?_
        exact ih (by omega) (by rw [he]; simp only [dreamN]; rw [if_neg h14])
      · refine x_iload_n (pc := 17) (i := 2) dX8_dreamOf_17 rfl rfl ?_
        refine x_ri (pc := 18) dX8_dreamOf_18 rfl rfl ?_
        exact ⟨by rw [he]; simp only [dreamN]; rw [if_pos h14], rfl⟩
  refine mC.of (L := [_, _, _]) okX8_dreamOf 1 rfl rfl ?_
  refine x_iload_n (pc := 0) (i := 1) dX8_dreamOf_0 rfl rfl ?_
  refine x_iconst (pc := 1) (v := 1) dX8_dreamOf_1 (by decide) ?_
  refine x_isub (pc := 2) dX8_dreamOf_2 ?_
  refine x_istore_n (pc := 3) (i := 2) (L' := [_, _, _]) dX8_dreamOf_3 rfl (by decide) rfl ?_
  exact lp j (by omega) rfl
theorem c_X8_dreamOf_63 {d : Nat} {w : mW} {j : Nat} (hS : Shape w) (hj : j < 5) : mC d kX8_dreamOf [.ref 63, .int (nI j)] w (fun r w' => r = some (.int (dreamN (arr w 63) (arr w 63 j) j)) ∧ w' = w) := by
  have lp : ∀ q, q ≤ j → dreamN (arr w 63) (arr w 63 j) j = dreamN (arr w 63) (arr w 63 j) q → mJ mX0 d kX8_dreamOf (fun r w' => r = some (.int (dreamN (arr w 63) (arr w 63 j) j)) ∧ w' = w) 4 [.ref 63, .int (nI j), .int (nI q - 1)] [] w := by
    intro q
    induction q with
    | zero =>
      intro hq he
      rw [i_m1]
      refine x_iload_n (pc := 4) (i := 2) dX8_dreamOf_4 rfl rfl ?_
      refine x_if_lt (pc := 5) (tgt := 25) dX8_dreamOf_5 (by decide) (fun h5 => ?_) (fun h5 => absurd h5 (by decide))
      refine x_bipush (pc := 25) (v := 10) dX8_dreamOf_25 (by decide) ?_
      refine x_aload_n (pc := 27) (i := 0) dX8_dreamOf_27 rfl rfl ?_
      refine x_iload_n (pc := 28) (i := 1) dX8_dreamOf_28 rfl rfl ?_
      refine x_aldN (pc := 29) hS dX8_dreamOf_29 rfl (by omega) (by decide) ?_
      refine x_iadd (pc := 30) dX8_dreamOf_30 ?_
      refine x_ri (pc := 31) dX8_dreamOf_31 rfl rfl ?_
      exact ⟨by rw [he]; rfl, rfl⟩
    | succ q ih =>
      intro hq he
      rw [nI_pred]
      have tk : (nI q).toInt = (q : Int) := nI_toInt (by omega)
      refine x_iload_n (pc := 4) (i := 2) dX8_dreamOf_4 rfl rfl ?_
      refine x_if_lt (pc := 5) (tgt := 25) dX8_dreamOf_5 (by decide) (fun h5 => absurd h5 (by (try simp only [b2_e0, b2_n0, Decidable.not_not] at *) <;> (try simp only [i_lt, i_le, i_eq, not_and, not_or, ne_eq, il_0, il_1, il_2, il_3, il_4, il_5, il_6, il_7, il_8, il_9, il_10, il_14, il_15, il_19, il_20, il_24, il_30, il_31, il_44, il_48, il_49, il_52, il_57, il_59, il_60, il_70, il_99, il_100, il_103, il_108, il_114, il_m1, il_m2, il_m3, il_m4, il_m9, il_m10, il_m100] at *) <;> omega)) (fun h5 => ?_)
      refine x_aload_n (pc := 8) (i := 0) dX8_dreamOf_8 rfl rfl ?_
      refine x_iload_n (pc := 9) (i := 2) dX8_dreamOf_9 rfl rfl ?_
      refine x_aldN (pc := 10) hS dX8_dreamOf_10 rfl (by omega) (by decide) ?_
      refine x_aload_n (pc := 11) (i := 0) dX8_dreamOf_11 rfl rfl ?_
      refine x_iload_n (pc := 12) (i := 1) dX8_dreamOf_12 rfl rfl ?_
      refine x_aldN (pc := 13) hS dX8_dreamOf_13 rfl (by omega) (by decide) ?_
      refine x_icmp_ne (pc := 14) (tgt := 19) dX8_dreamOf_14 (by decide) (fun h14 => ?_) (fun h14 => ?_)
      · refine x_iinc (pc := 19) (L' := [_, _, _]) dX8_dreamOf_19 (by decide) rfl (i_decS _) rfl ?_
        refine x_goto (pc := 22) (tgt := 4) dX8_dreamOf_22 (by decide) ?_
        exact ih (by omega) (by rw [he]; simp only [dreamN]; rw [if_neg h14])
      · refine x_iload_n (pc := 17) (i := 2) dX8_dreamOf_17 rfl rfl ?_
        refine x_ri (pc := 18) dX8_dreamOf_18 rfl rfl ?_
        exact ⟨by rw [he]; simp only [dreamN]; rw [if_pos h14], rfl⟩
  refine mC.of (L := [_, _, _]) okX8_dreamOf 1 rfl rfl ?_
  refine x_iload_n (pc := 0) (i := 1) dX8_dreamOf_0 rfl rfl ?_
  refine x_iconst (pc := 1) (v := 1) dX8_dreamOf_1 (by decide) ?_
  refine x_isub (pc := 2) dX8_dreamOf_2 ?_
  refine x_istore_n (pc := 3) (i := 2) (L' := [_, _, _]) dX8_dreamOf_3 rfl (by decide) rfl ?_
  exact lp j (by omega) rfl
theorem c_X0_dreamOf {d : Nat} {w : mW} {nw j : Nat} (hS : Shape w) (tw : (fld w 7 1).toInt = (nw : Int)) (hnw : nw ≤ 5) (hj : j < nw) : mC (d + 1) kX0_dreamOf [.ref 7, .int (nI j)] w (fun r w' => r = some (.int (if inB (fld w 7 0) (arr w 15) j then dreamN (arr w 15) (arr w 15 j) j else -9)) ∧ w' = w) := by
  have tj : (nI j).toInt = (j : Int) := nI_toInt (by omega)
  have lp : inB (fld w 7 0) (arr w 15) j → ∀ q, q ≤ j → dreamN (arr w 15) (arr w 15 j) j = dreamN (arr w 15) (arr w 15 j) q → mJ mX0 (d + 1) kX0_dreamOf (fun r w' => r = some (.int (if inB (fld w 7 0) (arr w 15) j then dreamN (arr w 15) (arr w 15 j) j else -9)) ∧ w' = w) 28 [.ref 7, .int (nI j), .int (nI q - 1)] [] w := by
    intro hin q
    rw [if_pos hin]
    induction q with
    | zero =>
      intro hq he
      rw [i_m1]
      refine x_iload_n (pc := 28) (i := 2) dX0_dreamOf_28 rfl rfl ?_
      refine x_if_lt (pc := 29) (tgt := 55) dX0_dreamOf_29 (by decide) (fun h29 => ?_) (fun h29 => absurd h29 (by decide))
      refine x_bipush (pc := 55) (v := 10) dX0_dreamOf_55 (by decide) ?_
      refine x_aload_n (pc := 57) (i := 0) dX0_dreamOf_57 rfl rfl ?_
      refine x_getR (pc := 58) hS fX0_33 dX0_dreamOf_58 rfl rfl ?_
      refine x_iload_n (pc := 61) (i := 1) dX0_dreamOf_61 rfl rfl ?_
      refine x_aldN (pc := 62) hS dX0_dreamOf_62 rfl (by omega) (by decide) ?_
      refine x_iadd (pc := 63) dX0_dreamOf_63 ?_
      refine x_ri (pc := 64) dX0_dreamOf_64 rfl rfl ?_
      exact ⟨by rw [he]; rfl, rfl⟩
    | succ q ih =>
      intro hq he
      rw [nI_pred]
      have tk : (nI q).toInt = (q : Int) := nI_toInt (by omega)
      refine x_iload_n (pc := 28) (i := 2) dX0_dreamOf_28 rfl rfl ?_
      refine x_if_lt (pc := 29) (tgt := 55) dX0_dreamOf_29 (by decide) (fun h29 => absurd h29 (by (try simp only [b2_e0, b2_n0, Decidable.not_not] at *) <;> (try simp only [i_lt, i_le, i_eq, not_and, not_or, ne_eq, il_0, il_1, il_2, il_3, il_4, il_5, il_6, il_7, il_8, il_9, il_10, il_14, il_15, il_19, il_20, il_24, il_30, il_31, il_44, il_48, il_49, il_52, il_57, il_59, il_60, il_70, il_99, il_100, il_103, il_108, il_114, il_m1, il_m2, il_m3, il_m4, il_m9, il_m10, il_m100] at *) <;> omega)) (fun h29 => ?_)
      refine x_aload_n (pc := 32) (i := 0) dX0_dreamOf_32 rfl rfl ?_
      refine x_getR (pc := 33) hS fX0_33 dX0_dreamOf_33 rfl rfl ?_
      refine x_iload_n (pc := 36) (i := 2) dX0_dreamOf_36 rfl rfl ?_
      refine x_aldN (pc := 37) hS dX0_dreamOf_37 rfl (by omega) (by decide) ?_
      refine x_aload_n (pc := 38) (i := 0) dX0_dreamOf_38 rfl rfl ?_
      refine x_getR (pc := 39) hS fX0_33 dX0_dreamOf_39 rfl rfl ?_
      refine x_iload_n (pc := 42) (i := 1) dX0_dreamOf_42 rfl rfl ?_
      refine x_aldN (pc := 43) hS dX0_dreamOf_43 rfl (by omega) (by decide) ?_
      refine x_icmp_ne (pc := 44) (tgt := 49) dX0_dreamOf_44 (by decide) (fun h44 => ?_) (fun h44 => ?_)
      · refine x_iinc (pc := 49) (L' := [_, _, _]) dX0_dreamOf_49 (by decide) rfl (i_decS _) rfl ?_
        refine x_goto (pc := 52) (tgt := 28) dX0_dreamOf_52 (by decide) ?_
        exact ih (by omega) (by rw [he]; simp only [dreamN]; rw [if_neg h44])
      · refine x_iload_n (pc := 47) (i := 2) dX0_dreamOf_47 rfl rfl ?_
        refine x_ri (pc := 48) dX0_dreamOf_48 rfl rfl ?_
        exact ⟨by rw [he]; simp only [dreamN]; rw [if_pos h44], rfl⟩
  refine mC.of (L := [_, _, _]) okX0_dreamOf 1 rfl rfl ?_
  refine x_aload_n (pc := 0) (i := 0) dX0_dreamOf_0 rfl rfl ?_
  refine x_iload_n (pc := 1) (i := 1) dX0_dreamOf_1 rfl rfl ?_
  refine x_vs (pc := 2) (As := [_]) rfl hS lX0_57 dX0_dreamOf_2 rfl rfl (Nat.le_of_ble_eq_true rfl) (c_X0_hasWalker_7 hS) ?_
  rintro _ _ ⟨rfl, hq⟩
  obtain rfl := hq.symm
  refine x_pushI ?_
  refine x_if_eq (pc := 5) (tgt := 21) dX0_dreamOf_5 (by decide) (fun h5 => absurd h5 (by rw [b2_e0]; (try simp only [b2_e0, b2_n0, Decidable.not_not] at *) <;> (try simp only [i_lt, i_le, i_eq, not_and, not_or, ne_eq, il_0, il_1, il_2, il_3, il_4, il_5, il_6, il_7, il_8, il_9, il_10, il_14, il_15, il_19, il_20, il_24, il_30, il_31, il_44, il_48, il_49, il_52, il_57, il_59, il_60, il_70, il_99, il_100, il_103, il_108, il_114, il_m1, il_m2, il_m3, il_m4, il_m9, il_m10, il_m100] at *) <;> omega)) (fun h5 => ?_)
  refine x_aload_n (pc := 8) (i := 0) dX0_dreamOf_8 rfl rfl ?_
  refine x_aload_n (pc := 9) (i := 0) dX0_dreamOf_9 rfl rfl ?_
  refine x_getR (pc := 10) hS fX0_33 dX0_dreamOf_10 rfl rfl ?_
  refine x_iload_n (pc := 13) (i := 1) dX0_dreamOf_13 rfl rfl ?_
  refine x_aldN (pc := 14) hS dX0_dreamOf_14 rfl (by omega) (by decide) ?_
  refine x_vs (pc := 15) (As := [_]) rfl hS lX0_49 dX0_dreamOf_15 rfl rfl (Nat.le_of_ble_eq_true rfl) (c_X0_hasBarrow_7 hS) ?_
  rintro _ _ ⟨rfl, hq⟩
  obtain rfl := hq.symm
  refine x_pushI ?_
  refine x_if_ne (pc := 18) (tgt := 24) dX0_dreamOf_18 (by decide) (fun h18 => ?_) (fun h18 => ?_)
  · refine x_iload_n (pc := 24) (i := 1) dX0_dreamOf_24 rfl rfl ?_
    refine x_iconst (pc := 25) (v := 1) dX0_dreamOf_25 (by decide) ?_
    refine x_isub (pc := 26) dX0_dreamOf_26 ?_
    refine x_istore_n (pc := 27) (i := 2) (L' := [_, _, _]) dX0_dreamOf_27 rfl (by decide) rfl ?_
    exact lp (by (try simp only [paysP, inB] at *) <;> (try simp only [b2_e0, b2_n0, Decidable.not_not] at *) <;> (try simp only [i_lt, i_le, i_eq, not_and, not_or, ne_eq, il_0, il_1, il_2, il_3, il_4, il_5, il_6, il_7, il_8, il_9, il_10, il_14, il_15, il_19, il_20, il_24, il_30, il_31, il_44, il_48, il_49, il_52, il_57, il_59, il_60, il_70, il_99, il_100, il_103, il_108, il_114, il_m1, il_m2, il_m3, il_m4, il_m9, il_m10, il_m100] at *) <;> omega) j (by omega) rfl
  · refine x_bipush (pc := 21) (v := (-9)) dX0_dreamOf_21 (by decide) ?_
    refine x_ri (pc := 23) dX0_dreamOf_23 rfl rfl ?_
    rw [if_neg (by (try simp only [paysP, inB] at *) <;> (try simp only [b2_e0, b2_n0, Decidable.not_not] at *) <;> (try simp only [i_lt, i_le, i_eq, not_and, not_or, ne_eq, il_0, il_1, il_2, il_3, il_4, il_5, il_6, il_7, il_8, il_9, il_10, il_14, il_15, il_19, il_20, il_24, il_30, il_31, il_44, il_48, il_49, il_52, il_57, il_59, il_60, il_70, il_99, il_100, il_103, il_108, il_114, il_m1, il_m2, il_m3, il_m4, il_m9, il_m10, il_m100] at *) <;> omega)]; exact ⟨rfl, rfl⟩

