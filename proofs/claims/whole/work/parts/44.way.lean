-- way: sets of places; bits (rows given for pasting)
def bt (x : Int32) (i : Nat) : Bool := x.toBitVec.getLsbD i
theorem b_ext {x y : Int32} (h : ∀ i, i < 32 → bt x i = bt y i) : x = y := Int32.toBitVec_inj.mp (BitVec.eq_of_getLsbD_eq (fun i hi => h i hi))
theorem b_or (x y : Int32) (i : Nat) : bt (x ||| y) i = (bt x i || bt y i) := by unfold bt; rw [Int32.toBitVec_or, BitVec.getLsbD_or]
theorem b_and (x y : Int32) (i : Nat) : bt (x &&& y) i = (bt x i && bt y i) := by unfold bt; rw [Int32.toBitVec_and, BitVec.getLsbD_and]
theorem s_l : ∀ n, n < 32 → ((nI n &&& 31).toBitVec.smod 32).toNat = n := by decide +kernel
theorem b_shl (n : Nat) (hn : n < 32) (x : Int32) {i : Nat} (hi : i < 32) : bt (x <<< (nI n &&& 31)) i = (decide (n ≤ i) && bt x (i - n)) := by
  unfold bt
  rw [Int32.toBitVec_shiftLeft]
  show (x.toBitVec <<< ((nI n &&& 31).toBitVec.smod 32).toNat).getLsbD i = _
  rw [s_l n hn, BitVec.getLsbD_shiftLeft]
  rcases Nat.lt_or_ge i n with h | h
  · simp [h, Nat.not_le.mpr h]
  · simp [hi, h, Nat.not_lt.mpr h]
theorem b_sshr (n : Nat) (hn : n < 32) (x : Int32) {i : Nat} (hi : i < 32) : bt (x >>> (nI n &&& 31)) i = if n + i < 32 then bt x (n + i) else bt x 31 := by
  unfold bt
  rw [Int32.toBitVec_shiftRight]
  show (x.toBitVec.sshiftRight ((nI n &&& 31).toBitVec.smod 32).toNat).getLsbD i = _
  rw [s_l n hn, BitVec.getLsbD_sshiftRight, BitVec.msb_eq_getLsbD_last]
  simp [hi]
theorem bt_1 : ∀ i, i < 32 → bt 1 i = decide (i = 0) := by decide +kernel
theorem bt_0 (i : Nat) : bt 0 i = false := BitVec.getLsbD_zero
theorem bt_one : ∀ s, s < 10 → ∀ i, i < 10 → bt ((1 : Int32) <<< (nI s &&& 31)) i = decide (i = s) := by decide +kernel
theorem in_bt {P : Int32} {p : Nat} (hp : p < 10) : ((P >>> (nI p &&& 31)) &&& 1) = 1 ↔ bt P p = true := by
  constructor
  · intro h
    have h2 := congrArg (fun x => bt x 0) h
    simp only [b_and] at h2
    rw [b_sshr p (by omega) P (by omega), bt_1 0 (by omega), if_pos (by omega), Nat.add_zero] at h2
    simpa using h2
  · intro h
    refine b_ext (fun i hi => ?_)
    rw [b_and, b_sshr p (by omega) P hi, bt_1 i hi]
    by_cases e : i = 0
    · subst e; rw [if_pos (by omega), Nat.add_zero, h]; rfl
    · simp [e]
def anyN (f : Nat → Bool) : Nat → Bool
  | 0 => false
  | k + 1 => anyN f k || f k
theorem anyN_iff {f : Nat → Bool} : ∀ {n : Nat}, anyN f n = true ↔ ∃ k, k < n ∧ f k = true
  | 0 => ⟨fun h => (by cases h), fun ⟨_, h, _⟩ => absurd h (Nat.not_lt_zero _)⟩
  | n + 1 => by
    simp only [anyN, Bool.or_eq_true, anyN_iff (n := n)]
    constructor
    · rintro (⟨k, h1, h2⟩ | h)
      · exact ⟨k, by omega, h2⟩
      · exact ⟨n, by omega, h⟩
    · rintro ⟨k, h1, h2⟩
      by_cases e : k = n
      · subst e; exact Or.inr h2
      · exact Or.inl ⟨k, by omega, h2⟩
theorem anyN_t {f : Nat → Bool} {n k : Nat} (h : k < n) (h2 : f k = true) : anyN f n = true := anyN_iff.mpr ⟨k, h, h2⟩
def nr1 (P g far : Int32) (p : Nat) : Bool := bt P p && decide (farE (nI p) g ≤ far)
theorem nr1_no {P g far : Int32} {k : Nat} (hk : k < 10) (h : (¬ ((P >>> (nI k &&& 31)) &&& 1) = 1) ∨ ¬ farE (nI k) g ≤ far) : nr1 P g far k = false := by
  unfold nr1
  rcases h with h | h
  · rw [in_bt hk] at h; simp at h; rw [h]; rfl
  · simp [h]
theorem nr1_yes {P g far : Int32} {k : Nat} (hk : k < 10) (h : ((P >>> (nI k &&& 31)) &&& 1) = 1) (h2 : farE (nI k) g ≤ far) : nr1 P g far k = true := by
  unfold nr1
  rw [(in_bt hk).mp h]; simp [h2]
theorem c_X0_isNearAny {d : Nat} {w : mW} {P g far : Int32} : mC (d + 2) kX0_isNearAny [.int P, .int g, .int far] w (fun r w' => r = some (.int (b2 (anyN (nr1 P g far) 10 = true))) ∧ w' = w) := by
  have lp : ∀ (m k : Nat), k ≤ 10 → 10 < k + m → anyN (nr1 P g far) k = false → mJ mX0 (d + 2) kX0_isNearAny (fun r w' => r = some (.int (b2 (anyN (nr1 P g far) 10 = true))) ∧ w' = w) 2 [.int P, .int g, .int far, .int (nI k)] [] w := by
    intro m
    induction m with
    | zero => intro k h1 h2; omega
    | succ m ih =>
      intro k hk1 hk2 ha
      have tk : (nI k).toInt = (k : Int) := nI_toInt (by omega)
      refine x_iload_n (pc := 2) (i := 3) dX0_isNearAny_2 rfl rfl ?_
      refine x_bipush (pc := 3) (v := 9) dX0_isNearAny_3 (by decide) ?_
      refine x_icmp_gt (pc := 5) (tgt := 34) dX0_isNearAny_5 (by decide) (fun h5 => ?_) (fun h5 => ?_)
      · refine x_iconst (pc := 34) (v := 0) dX0_isNearAny_34 (by decide) ?_
        refine x_ri (pc := 35) dX0_isNearAny_35 rfl rfl ?_
        exact ⟨by rw [b2_f (by rw [← (show k = 10 by (try simp only [b2_e0, b2_n0, Decidable.not_not] at *) <;> (try simp only [i_lt, i_le, i_eq, not_and, not_or, ne_eq, il_0, il_1, il_2, il_3, il_4, il_5, il_6, il_7, il_8, il_9, il_10, il_14, il_15, il_19, il_20, il_24, il_30, il_31, il_44, il_48, il_49, il_52, il_57, il_59, il_60, il_70, il_99, il_100, il_103, il_108, il_114, il_m1, il_m2, il_m3, il_m4, il_m9, il_m10, il_m100] at *) <;> omega), ha]; decide)], rfl⟩
      · refine x_iload_n (pc := 8) (i := 0) dX0_isNearAny_8 rfl rfl ?_
        refine x_iload_n (pc := 9) (i := 3) dX0_isNearAny_9 rfl rfl ?_
        refine x_ishr (pc := 10) dX0_isNearAny_10 ?_
        refine x_iconst (pc := 11) (v := 1) dX0_isNearAny_11 (by decide) ?_
        refine x_iand (pc := 12) dX0_isNearAny_12 ?_
        refine x_iconst (pc := 13) (v := 1) dX0_isNearAny_13 (by decide) ?_
        refine x_icmp_ne (pc := 14) (tgt := 28) dX0_isNearAny_14 (by decide) (fun h14 => ?_) (fun h14 => ?_)
        · refine x_iinc (pc := 28) (L' := [_, _, _, _]) dX0_isNearAny_28 (by decide) rfl (by first | exact nI_inc _ | rfl) rfl ?_
          refine x_goto (pc := 31) (tgt := 2) dX0_isNearAny_31 (by decide) ?_
          exact ih (k + 1) (by (try simp only [b2_e0, b2_n0, Decidable.not_not] at *) <;> (try simp only [i_lt, i_le, i_eq, not_and, not_or, ne_eq, il_0, il_1, il_2, il_3, il_4, il_5, il_6, il_7, il_8, il_9, il_10, il_14, il_15, il_19, il_20, il_24, il_30, il_31, il_44, il_48, il_49, il_52, il_57, il_59, il_60, il_70, il_99, il_100, il_103, il_108, il_114, il_m1, il_m2, il_m3, il_m4, il_m9, il_m10, il_m100] at *) <;> omega) (by omega) (by rw [anyN, ha, nr1_no (by (try simp only [b2_e0, b2_n0, Decidable.not_not] at *) <;> (try simp only [i_lt, i_le, i_eq, not_and, not_or, ne_eq, il_0, il_1, il_2, il_3, il_4, il_5, il_6, il_7, il_8, il_9, il_10, il_14, il_15, il_19, il_20, il_24, il_30, il_31, il_44, il_48, il_49, il_52, il_57, il_59, il_60, il_70, il_99, il_100, il_103, il_108, il_114, il_m1, il_m2, il_m3, il_m4, il_m9, il_m10, il_m100] at *) <;> omega) (by first | exact Or.inl h14 | exact Or.inr (b2_e0.mp h23))]; rfl)
        · refine x_iload_n (pc := 17) (i := 3) dX0_isNearAny_17 rfl rfl ?_
          refine x_iload_n (pc := 18) (i := 1) dX0_isNearAny_18 rfl rfl ?_
          refine x_iload_n (pc := 19) (i := 2) dX0_isNearAny_19 rfl rfl ?_
          refine x_ss (pc := 20) (As := [_, _, _]) rfl lX0_60 dX0_isNearAny_20 rfl (Nat.le_of_ble_eq_true rfl) c_X7_isNear ?_
          rintro _ _ ⟨rfl, hq⟩
          obtain rfl := hq.symm
          refine x_pushI ?_
          refine x_if_eq (pc := 23) (tgt := 28) dX0_isNearAny_23 (by decide) (fun h23 => ?_) (fun h23 => ?_)
          · refine x_iinc (pc := 28) (L' := [_, _, _, _]) dX0_isNearAny_28 (by decide) rfl (by first | exact nI_inc _ | rfl) rfl ?_
            refine x_goto (pc := 31) (tgt := 2) dX0_isNearAny_31 (by decide) ?_
            exact ih (k + 1) (by (try simp only [b2_e0, b2_n0, Decidable.not_not] at *) <;> (try simp only [i_lt, i_le, i_eq, not_and, not_or, ne_eq, il_0, il_1, il_2, il_3, il_4, il_5, il_6, il_7, il_8, il_9, il_10, il_14, il_15, il_19, il_20, il_24, il_30, il_31, il_44, il_48, il_49, il_52, il_57, il_59, il_60, il_70, il_99, il_100, il_103, il_108, il_114, il_m1, il_m2, il_m3, il_m4, il_m9, il_m10, il_m100] at *) <;> omega) (by omega) (by rw [anyN, ha, nr1_no (by (try simp only [b2_e0, b2_n0, Decidable.not_not] at *) <;> (try simp only [i_lt, i_le, i_eq, not_and, not_or, ne_eq, il_0, il_1, il_2, il_3, il_4, il_5, il_6, il_7, il_8, il_9, il_10, il_14, il_15, il_19, il_20, il_24, il_30, il_31, il_44, il_48, il_49, il_52, il_57, il_59, il_60, il_70, il_99, il_100, il_103, il_108, il_114, il_m1, il_m2, il_m3, il_m4, il_m9, il_m10, il_m100] at *) <;> omega) (by first | exact Or.inl h14 | exact Or.inr (b2_e0.mp h23))]; rfl)
          · refine x_iconst (pc := 26) (v := 1) dX0_isNearAny_26 (by decide) ?_
            refine x_ri (pc := 27) dX0_isNearAny_27 rfl rfl ?_
            exact ⟨by rw [b2_t (anyN_t (by (try simp only [b2_e0, b2_n0, Decidable.not_not] at *) <;> (try simp only [i_lt, i_le, i_eq, not_and, not_or, ne_eq, il_0, il_1, il_2, il_3, il_4, il_5, il_6, il_7, il_8, il_9, il_10, il_14, il_15, il_19, il_20, il_24, il_30, il_31, il_44, il_48, il_49, il_52, il_57, il_59, il_60, il_70, il_99, il_100, il_103, il_108, il_114, il_m1, il_m2, il_m3, il_m4, il_m9, il_m10, il_m100] at *) <;> omega) (nr1_yes (by (try simp only [b2_e0, b2_n0, Decidable.not_not] at *) <;> (try simp only [i_lt, i_le, i_eq, not_and, not_or, ne_eq, il_0, il_1, il_2, il_3, il_4, il_5, il_6, il_7, il_8, il_9, il_10, il_14, il_15, il_19, il_20, il_24, il_30, il_31, il_44, il_48, il_49, il_52, il_57, il_59, il_60, il_70, il_99, il_100, il_103, il_108, il_114, il_m1, il_m2, il_m3, il_m4, il_m9, il_m10, il_m100] at *) <;> omega) h14 (b2_n0.mp h23)))], rfl⟩
  refine mC.of (L := [_, _, _, _]) okX0_isNearAny 1 rfl rfl ?_
  refine x_iconst (pc := 0) (v := 0) dX0_isNearAny_0 (by decide) ?_
  refine x_istore_n (pc := 1) (i := 3) (L' := [_, _, _, _]) dX0_isNearAny_1 rfl (by decide) rfl ?_
  exact lp 11 0 (by omega) (by omega) rfl
def sitesE (σ : Nat → Int32) (P far : Int32) : Nat → Int32
  | 0 => 0
  | k + 1 => if anyN (nr1 P (σ k) far) 10 = true then sitesE σ P far k ||| ((1 : Int32) <<< (σ k &&& 31)) else sitesE σ P far k
theorem sitesE_y {σ : Nat → Int32} {P far : Int32} {k : Nat} (h : anyN (nr1 P (σ k) far) 10 = true) : sitesE σ P far (k + 1) = sitesE σ P far k ||| ((1 : Int32) <<< (σ k &&& 31)) := if_pos h
theorem sitesE_n {σ : Nat → Int32} {P far : Int32} {k : Nat} (h : ¬ anyN (nr1 P (σ k) far) 10 = true) : sitesE σ P far (k + 1) = sitesE σ P far k := if_neg h
theorem c_X0_sitesNear {d : Nat} {w : mW} {P far : Int32} {nb : Nat} (hS : Shape w) (tb : (fld w 7 0).toInt = (nb : Int)) (hnb : nb ≤ 5) : mC (d + 3) kX0_sitesNear [.ref 7, .int P, .int far] w (fun r w' => r = some (.int (sitesE (arr w 11) P far nb)) ∧ w' = w) := by
  have lp : ∀ (m k : Nat), k ≤ nb → nb < k + m → mJ mX0 (d + 3) kX0_sitesNear (fun r w' => r = some (.int (sitesE (arr w 11) P far nb)) ∧ w' = w) 5 [.ref 7, .int P, .int far, .int (sitesE (arr w 11) P far k), .int (nI k)] [] w := by
    intro m
    induction m with
    | zero => intro k h1 h2; omega
    | succ m ih =>
      intro k hk1 hk2
      have tk : (nI k).toInt = (k : Int) := nI_toInt (by omega)
      refine x_iload (pc := 5) dX0_sitesNear_5 rfl ?_
      refine x_aload_n (pc := 7) (i := 0) dX0_sitesNear_7 rfl rfl ?_
      refine x_getI (pc := 8) hS fX0_39 dX0_sitesNear_8 rfl rfl ?_
      refine x_icmp_ge (pc := 11) (tgt := 47) dX0_sitesNear_11 (by decide) (fun h11 => ?_) (fun h11 => ?_)
      · refine x_iload_n (pc := 47) (i := 3) dX0_sitesNear_47 rfl rfl ?_
        refine x_ri (pc := 48) dX0_sitesNear_48 rfl rfl ?_
        exact ⟨by rw [show k = nb by (try simp only [b2_e0, b2_n0, Decidable.not_not] at *) <;> (try simp only [i_lt, i_le, i_eq, not_and, not_or, ne_eq, il_0, il_1, il_2, il_3, il_4, il_5, il_6, il_7, il_8, il_9, il_10, il_14, il_15, il_19, il_20, il_24, il_30, il_31, il_44, il_48, il_49, il_52, il_57, il_59, il_60, il_70, il_99, il_100, il_103, il_108, il_114, il_m1, il_m2, il_m3, il_m4, il_m9, il_m10, il_m100] at *) <;> omega], rfl⟩
      · refine x_iload_n (pc := 14) (i := 1) dX0_sitesNear_14 rfl rfl ?_
        refine x_aload_n (pc := 15) (i := 0) dX0_sitesNear_15 rfl rfl ?_
        refine x_getR (pc := 16) hS fX0_21 dX0_sitesNear_16 rfl rfl ?_
        refine x_iload (pc := 19) dX0_sitesNear_19 rfl ?_
        refine x_aldN (pc := 21) hS dX0_sitesNear_21 rfl (by (try simp only [b2_e0, b2_n0, Decidable.not_not] at *) <;> (try simp only [i_lt, i_le, i_eq, not_and, not_or, ne_eq, il_0, il_1, il_2, il_3, il_4, il_5, il_6, il_7, il_8, il_9, il_10, il_14, il_15, il_19, il_20, il_24, il_30, il_31, il_44, il_48, il_49, il_52, il_57, il_59, il_60, il_70, il_99, il_100, il_103, il_108, il_114, il_m1, il_m2, il_m3, il_m4, il_m9, il_m10, il_m100] at *) <;> omega) (by decide) ?_
        refine x_iload_n (pc := 22) (i := 2) dX0_sitesNear_22 rfl rfl ?_
        refine x_ss (pc := 23) (As := [_, _, _]) rfl lX0_83 dX0_sitesNear_23 rfl (Nat.le_of_ble_eq_true rfl) c_X0_isNearAny ?_
        rintro _ _ ⟨rfl, hq⟩
        obtain rfl := hq.symm
        refine x_pushI ?_
        refine x_if_eq (pc := 26) (tgt := 41) dX0_sitesNear_26 (by decide) (fun h26 => ?_) (fun h26 => ?_)
        · first | rw [← sitesE_y (b2_n0.mp h26)] | rw [← sitesE_n (b2_e0.mp h26)]
          refine x_iinc (pc := 41) (L' := [_, _, _, _, _]) dX0_sitesNear_41 (by decide) rfl (by first | exact nI_inc _ | rfl) rfl ?_
          refine x_goto (pc := 44) (tgt := 5) dX0_sitesNear_44 (by decide) ?_
          exact ih (k + 1) (by (try simp only [b2_e0, b2_n0, Decidable.not_not] at *) <;> (try simp only [i_lt, i_le, i_eq, not_and, not_or, ne_eq, il_0, il_1, il_2, il_3, il_4, il_5, il_6, il_7, il_8, il_9, il_10, il_14, il_15, il_19, il_20, il_24, il_30, il_31, il_44, il_48, il_49, il_52, il_57, il_59, il_60, il_70, il_99, il_100, il_103, il_108, il_114, il_m1, il_m2, il_m3, il_m4, il_m9, il_m10, il_m100] at *) <;> omega) (by omega)
        · refine x_iload_n (pc := 29) (i := 3) dX0_sitesNear_29 rfl rfl ?_
          refine x_iconst (pc := 30) (v := 1) dX0_sitesNear_30 (by decide) ?_
          refine x_aload_n (pc := 31) (i := 0) dX0_sitesNear_31 rfl rfl ?_
          refine x_getR (pc := 32) hS fX0_21 dX0_sitesNear_32 rfl rfl ?_
          refine x_iload (pc := 35) dX0_sitesNear_35 rfl ?_
          refine x_aldN (pc := 37) hS dX0_sitesNear_37 rfl (by (try simp only [b2_e0, b2_n0, Decidable.not_not] at *) <;> (try simp only [i_lt, i_le, i_eq, not_and, not_or, ne_eq, il_0, il_1, il_2, il_3, il_4, il_5, il_6, il_7, il_8, il_9, il_10, il_14, il_15, il_19, il_20, il_24, il_30, il_31, il_44, il_48, il_49, il_52, il_57, il_59, il_60, il_70, il_99, il_100, il_103, il_108, il_114, il_m1, il_m2, il_m3, il_m4, il_m9, il_m10, il_m100] at *) <;> omega) (by decide) ?_
          refine x_ishl (pc := 38) dX0_sitesNear_38 ?_
          refine x_ior (pc := 39) dX0_sitesNear_39 ?_
          refine x_istore_n (pc := 40) (i := 3) (L' := [_, _, _, _, _]) dX0_sitesNear_40 rfl (by decide) rfl ?_
          first | rw [← sitesE_y (b2_n0.mp h26)] | rw [← sitesE_n (b2_e0.mp h26)]
          refine x_iinc (pc := 41) (L' := [_, _, _, _, _]) dX0_sitesNear_41 (by decide) rfl (by first | exact nI_inc _ | rfl) rfl ?_
          refine x_goto (pc := 44) (tgt := 5) dX0_sitesNear_44 (by decide) ?_
          exact ih (k + 1) (by (try simp only [b2_e0, b2_n0, Decidable.not_not] at *) <;> (try simp only [i_lt, i_le, i_eq, not_and, not_or, ne_eq, il_0, il_1, il_2, il_3, il_4, il_5, il_6, il_7, il_8, il_9, il_10, il_14, il_15, il_19, il_20, il_24, il_30, il_31, il_44, il_48, il_49, il_52, il_57, il_59, il_60, il_70, il_99, il_100, il_103, il_108, il_114, il_m1, il_m2, il_m3, il_m4, il_m9, il_m10, il_m100] at *) <;> omega) (by omega)
  refine mC.of (L := [_, _, _, _, _]) okX0_sitesNear 2 rfl rfl ?_
  refine x_iconst (pc := 0) (v := 0) dX0_sitesNear_0 (by decide) ?_
  refine x_istore_n (pc := 1) (i := 3) (L' := [_, _, _, _, _]) dX0_sitesNear_1 rfl (by decide) rfl ?_
  refine x_iconst (pc := 2) (v := 0) dX0_sitesNear_2 (by decide) ?_
  refine x_istore (pc := 3) (L' := [_, _, _, _, _]) dX0_sitesNear_3 (by decide) rfl ?_
  exact lp (nb + 1) 0 (by omega) (by omega)
def xWay (nA : Int32 → Bool) (st : Int32 → Int32) : Nat → Nat → Int32 → Int32
  | 0, _, _ => -9
  | m + 1, c, P => if nA P = true then nI c else xWay nA st m (c + 1) (P ||| st P)
theorem c_X0_fewestTo {d : Nat} {w : mW} {g : Int32} {nb nw v : Nat} (hS : Shape w) (tb : (fld w 7 0).toInt = (nb : Int)) (hnb : nb ≤ 5) (tw : (fld w 7 1).toInt = (nw : Int)) (hnw : nw ≤ 5) (hv : v < nw) : mC (d + 4) kX0_fewestTo [.ref 7, .int (nI v), .int g] w (fun r w' => r = some (.int (xWay (fun P => anyN (nr1 P g (arr w 14 v)) 10) (fun P => sitesE (arr w 11) P (arr w 14 v) nb) (nb + 1) 0 ((1 : Int32) <<< (arr w 13 v &&& 31)))) ∧ w' = w) := by
  have tv : (nI v).toInt = (v : Int) := nI_toInt (by omega)
  have lp : ∀ (m c : Nat) (P : Int32), c + m = nb + 1 → mJ mX0 (d + 4) kX0_fewestTo (fun r w' => r = some (.int (xWay (fun P => anyN (nr1 P g (arr w 14 v)) 10) (fun P => sitesE (arr w 11) P (arr w 14 v) nb) m c P)) ∧ w' = w) 23 [.ref 7, .int (nI v), .int g, .int P, .int (nI c)] [] w := by
    intro m
    induction m with
    | zero =>
      intro c P h1
      have tk : (nI c).toInt = (c : Int) := nI_toInt (by omega)
      refine x_iload (pc := 23) dX0_fewestTo_23 rfl ?_
      refine x_aload_n (pc := 25) (i := 0) dX0_fewestTo_25 rfl rfl ?_
      refine x_getI (pc := 26) hS fX0_39 dX0_fewestTo_26 rfl rfl ?_
      refine x_icmp_gt (pc := 29) (tgt := 69) dX0_fewestTo_29 (by decide) (fun h29 => ?_) (fun h29 => absurd h29 (by (try simp only [b2_e0, b2_n0, Decidable.not_not] at *) <;> (try simp only [i_lt, i_le, i_eq, not_and, not_or, ne_eq, il_0, il_1, il_2, il_3, il_4, il_5, il_6, il_7, il_8, il_9, il_10, il_14, il_15, il_19, il_20, il_24, il_30, il_31, il_44, il_48, il_49, il_52, il_57, il_59, il_60, il_70, il_99, il_100, il_103, il_108, il_114, il_m1, il_m2, il_m3, il_m4, il_m9, il_m10, il_m100] at *) <;> omega))
      refine x_bipush (pc := 69) (v := (-9)) dX0_fewestTo_69 (by decide) ?_
      refine x_ri (pc := 71) dX0_fewestTo_71 rfl rfl ?_
      exact ⟨rfl, rfl⟩
    | succ m ih =>
      intro c P h1
      have tk : (nI c).toInt = (c : Int) := nI_toInt (by omega)
      refine x_iload (pc := 23) dX0_fewestTo_23 rfl ?_
      refine x_aload_n (pc := 25) (i := 0) dX0_fewestTo_25 rfl rfl ?_
      refine x_getI (pc := 26) hS fX0_39 dX0_fewestTo_26 rfl rfl ?_
      refine x_icmp_gt (pc := 29) (tgt := 69) dX0_fewestTo_29 (by decide) (fun h29 => absurd h29 (by (try simp only [b2_e0, b2_n0, Decidable.not_not] at *) <;> (try simp only [i_lt, i_le, i_eq, not_and, not_or, ne_eq, il_0, il_1, il_2, il_3, il_4, il_5, il_6, il_7, il_8, il_9, il_10, il_14, il_15, il_19, il_20, il_24, il_30, il_31, il_44, il_48, il_49, il_52, il_57, il_59, il_60, il_70, il_99, il_100, il_103, il_108, il_114, il_m1, il_m2, il_m3, il_m4, il_m9, il_m10, il_m100] at *) <;> omega)) (fun h29 => ?_)
      refine x_iload_n (pc := 32) (i := 3) dX0_fewestTo_32 rfl rfl ?_
      refine x_iload_n (pc := 33) (i := 2) dX0_fewestTo_33 rfl rfl ?_
      refine x_aload_n (pc := 34) (i := 0) dX0_fewestTo_34 rfl rfl ?_
      refine x_getR (pc := 35) hS fX0_30 dX0_fewestTo_35 rfl rfl ?_
      refine x_iload_n (pc := 38) (i := 1) dX0_fewestTo_38 rfl rfl ?_
      refine x_aldN (pc := 39) hS dX0_fewestTo_39 rfl (by omega) (by decide) ?_
      refine x_ss (pc := 40) (As := [_, _, _]) rfl lX0_83 dX0_fewestTo_40 rfl (Nat.le_of_ble_eq_true rfl) c_X0_isNearAny ?_
      rintro _ _ ⟨rfl, hq⟩
      obtain rfl := hq.symm
      refine x_pushI ?_
      refine x_if_eq (pc := 43) (tgt := 49) dX0_fewestTo_43 (by decide) (fun h43 => ?_) (fun h43 => ?_)
      · refine x_iload_n (pc := 49) (i := 3) dX0_fewestTo_49 rfl rfl ?_
        refine x_aload_n (pc := 50) (i := 0) dX0_fewestTo_50 rfl rfl ?_
        refine x_iload_n (pc := 51) (i := 3) dX0_fewestTo_51 rfl rfl ?_
        refine x_aload_n (pc := 52) (i := 0) dX0_fewestTo_52 rfl rfl ?_
        refine x_getR (pc := 53) hS fX0_30 dX0_fewestTo_53 rfl rfl ?_
        refine x_iload_n (pc := 56) (i := 1) dX0_fewestTo_56 rfl rfl ?_
        refine x_aldN (pc := 57) hS dX0_fewestTo_57 rfl (by omega) (by decide) ?_
        refine x_vs (pc := 58) (As := [_, _]) rfl hS lX0_86 dX0_fewestTo_58 rfl rfl (Nat.le_of_ble_eq_true rfl) (c_X0_sitesNear hS tb hnb) ?_
        rintro _ _ ⟨rfl, hq⟩
        obtain rfl := hq.symm
        refine x_pushI ?_
        refine x_ior (pc := 61) dX0_fewestTo_61 ?_
        refine x_istore_n (pc := 62) (i := 3) (L' := [_, _, _, _, _]) dX0_fewestTo_62 rfl (by decide) rfl ?_
        refine x_iinc (pc := 63) (L' := [_, _, _, _, _]) dX0_fewestTo_63 (by decide) rfl (by first | exact nI_inc _ | rfl) rfl ?_
        refine x_goto (pc := 66) (tgt := 23) dX0_fewestTo_66 (by decide) ?_
        rw [xWay, if_neg (b2_e0.mp h43)]
        exact ih (c + 1) _ (by omega)
      · refine x_iload (pc := 46) dX0_fewestTo_46 rfl ?_
        refine x_ri (pc := 48) dX0_fewestTo_48 rfl rfl ?_
        exact ⟨by rw [xWay, if_pos (b2_n0.mp h43)], rfl⟩
  refine mC.of (L := [_, _, _, _, _]) okX0_fewestTo 2 rfl rfl ?_
  refine x_aload_n (pc := 0) (i := 0) dX0_fewestTo_0 rfl rfl ?_
  refine x_iload_n (pc := 1) (i := 1) dX0_fewestTo_1 rfl rfl ?_
  refine x_vs (pc := 2) (As := [_]) rfl hS lX0_57 dX0_fewestTo_2 rfl rfl (Nat.le_of_ble_eq_true rfl) (c_X0_hasWalker_7 hS) ?_
  rintro _ _ ⟨rfl, hq⟩
  obtain rfl := hq.symm
  refine x_pushI ?_
  refine x_if_ne (pc := 5) (tgt := 11) dX0_fewestTo_5 (by decide) (fun h5 => ?_) (fun h5 => absurd h5 (by rw [b2_n0]; exact ⟨by (try simp only [b2_e0, b2_n0, Decidable.not_not] at *) <;> (try simp only [i_lt, i_le, i_eq, not_and, not_or, ne_eq, il_0, il_1, il_2, il_3, il_4, il_5, il_6, il_7, il_8, il_9, il_10, il_14, il_15, il_19, il_20, il_24, il_30, il_31, il_44, il_48, il_49, il_52, il_57, il_59, il_60, il_70, il_99, il_100, il_103, il_108, il_114, il_m1, il_m2, il_m3, il_m4, il_m9, il_m10, il_m100] at *) <;> omega, by (try simp only [b2_e0, b2_n0, Decidable.not_not] at *) <;> (try simp only [i_lt, i_le, i_eq, not_and, not_or, ne_eq, il_0, il_1, il_2, il_3, il_4, il_5, il_6, il_7, il_8, il_9, il_10, il_14, il_15, il_19, il_20, il_24, il_30, il_31, il_44, il_48, il_49, il_52, il_57, il_59, il_60, il_70, il_99, il_100, il_103, il_108, il_114, il_m1, il_m2, il_m3, il_m4, il_m9, il_m10, il_m100] at *) <;> omega⟩))
  refine x_iconst (pc := 11) (v := 1) dX0_fewestTo_11 (by decide) ?_
  refine x_aload_n (pc := 12) (i := 0) dX0_fewestTo_12 rfl rfl ?_
  refine x_getR (pc := 13) hS fX0_27 dX0_fewestTo_13 rfl rfl ?_
  refine x_iload_n (pc := 16) (i := 1) dX0_fewestTo_16 rfl rfl ?_
  refine x_aldN (pc := 17) hS dX0_fewestTo_17 rfl (by omega) (by decide) ?_
  refine x_ishl (pc := 18) dX0_fewestTo_18 ?_
  refine x_istore_n (pc := 19) (i := 3) (L' := [_, _, _, _, _]) dX0_fewestTo_19 rfl (by decide) rfl ?_
  refine x_iconst (pc := 20) (v := 0) dX0_fewestTo_20 (by decide) ?_
  refine x_istore (pc := 21) (L' := [_, _, _, _, _]) dX0_fewestTo_21 (by decide) rfl ?_
  exact lp (nb + 1) 0 _ (by omega)
-- the reference
def stepK (σ : Nat → Int32) (far : Int32) (nb n : Nat) (s : Nat → Int32) : Nat → Nat → Int32
  | 0 => s
  | k + 1 => if stepK σ far nb n s k (k / nb) = nI n ∧ stepK σ far nb n s k (k % nb) = -9 ∧ farE (σ (k / nb)) (σ (k % nb)) ≤ far then upd (stepK σ far nb n s k) (k % nb) (nI (n + 1)) else stepK σ far nb n s k
theorem c_X8_stepOn {d : Nat} {w : mW} {s : Nat → Int32} {nb n v : Nat} (hS0 : Shape w) (tb : (fld w 44 5).toInt = (nb : Int)) (hnb : nb ≤ 5) (hv : v < 5) (hn : n ≤ 5) (hsi : ∀ j, j < nb → 0 ≤ (arr w 51 j).toInt ∧ (arr w 51 j).toInt ≤ 9) : mC (d + 1) kX8_stepOn [.ref 44, .int (nI v), .int (nI n)] (setA w 65 s) (fun r w' => r = none ∧ w' = setA w 65 (stepK (arr w 51) (arr w 54 v) nb n s (nb * nb))) := by
  have eb := nI_ofT tb (by omega)
  have hnn : nb * nb ≤ 25 := Nat.mul_le_mul hnb hnb
  have tnn : (nI (nb * nb)).toInt = ((nb * nb : Nat) : Int) := nI_toInt (by omega)
  have lp : ∀ (m k : Nat), k ≤ nb * nb → nb * nb < k + m → mJ mX0 (d + 1) kX8_stepOn (fun r w' => r = none ∧ w' = setA w 65 (stepK (arr w 51) (arr w 54 v) nb n s (nb * nb))) 2 [.ref 44, .int (nI v), .int (nI n), .int (nI k), .null, .null] [] (setA w 65 (stepK (arr w 51) (arr w 54 v) nb n s k)) := by
    intro m
    induction m with
    | zero => intro k h1 h2; omega
    | succ m ih =>
      intro k hk1 hk2
      have tk : (nI k).toInt = (k : Int) := nI_toInt (by omega)
      have hS := hS0.stA 65 (stepK (arr w 51) (arr w 54 v) nb n s k)
      refine x_iload_n (pc := 2) (i := 3) dX8_stepOn_2 rfl rfl ?_
      refine x_aload_n (pc := 3) (i := 0) dX8_stepOn_3 rfl rfl ?_
      refine x_getI (pc := 4) hS fX8_92 dX8_stepOn_4 rfl rfl ?_
      refine x_aload_n (pc := 7) (i := 0) dX8_stepOn_7 rfl rfl ?_
      refine x_getI (pc := 8) hS fX8_92 dX8_stepOn_8 rfl rfl ?_
      refine x_imul (pc := 11) dX8_stepOn_11 ?_
      rw [fld_setA, eb, pk_mul]
      refine x_icmp_ge (pc := 12) (tgt := 96) dX8_stepOn_12 (by decide) (fun h12 => ?_) (fun h12 => ?_)
      · refine x_rv (pc := 96) dX8_stepOn_96 rfl ?_
        exact ⟨rfl, by rw [show k = nb * nb by (try simp only [b2_e0, b2_n0, Decidable.not_not] at *) <;> (try simp only [i_lt, i_le, i_eq, not_and, not_or, ne_eq, il_0, il_1, il_2, il_3, il_4, il_5, il_6, il_7, il_8, il_9, il_10, il_14, il_15, il_19, il_20, il_24, il_30, il_31, il_44, il_48, il_49, il_52, il_57, il_59, il_60, il_70, il_99, il_100, il_103, il_108, il_114, il_m1, il_m2, il_m3, il_m4, il_m9, il_m10, il_m100] at *) <;> omega]⟩
      · have hkn : k < nb * nb := by (try simp only [b2_e0, b2_n0, Decidable.not_not] at *) <;> (try simp only [i_lt, i_le, i_eq, not_and, not_or, ne_eq, il_0, il_1, il_2, il_3, il_4, il_5, il_6, il_7, il_8, il_9, il_10, il_14, il_15, il_19, il_20, il_24, il_30, il_31, il_44, il_48, il_49, il_52, il_57, il_59, il_60, il_70, il_99, il_100, il_103, il_108, il_114, il_m1, il_m2, il_m3, il_m4, il_m9, il_m10, il_m100] at *) <;> omega
        have hnb0 : 0 < nb := by rcases Nat.eq_zero_or_pos nb with e | e; (rw [e] at hkn; omega); exact e
        have hdl : k / nb < nb := Nat.div_lt_of_lt_mul hkn
        have hml : k % nb < nb := Nat.mod_lt _ hnb0
        have eb0 : fld (setA w 65 (stepK (arr w 51) (arr w 54 v) nb n s k)) 44 5 = nI nb := by rw [fld_setA, eb]
        refine x_iload_n (pc := 15) (i := 3) dX8_stepOn_15 rfl rfl ?_
        refine x_aload_n (pc := 16) (i := 0) dX8_stepOn_16 rfl rfl ?_
        refine x_getI (pc := 17) hS fX8_92 dX8_stepOn_17 rfl rfl ?_
        refine x_idiv (pc := 20) dX8_stepOn_20 (by rw [eb0]; exact nI_ne0 (by omega) (by omega)) ?_
        rw [eb0, pk_div (by omega) (by omega) (by omega)]
        refine x_istore (pc := 21) (L' := [_, _, _, _, _, _]) dX8_stepOn_21 (by decide) rfl ?_
        refine x_iload_n (pc := 23) (i := 3) dX8_stepOn_23 rfl rfl ?_
        refine x_aload_n (pc := 24) (i := 0) dX8_stepOn_24 rfl rfl ?_
        refine x_getI (pc := 25) hS fX8_92 dX8_stepOn_25 rfl rfl ?_
        refine x_irem (pc := 28) dX8_stepOn_28 (by rw [eb0]; exact nI_ne0 (by omega) (by omega)) ?_
        rw [eb0, pk_rem (by omega) (by omega) (by omega)]
        refine x_istore (pc := 29) (L' := [_, _, _, _, _, _]) dX8_stepOn_29 (by decide) rfl ?_
        refine x_aload_n (pc := 31) (i := 0) dX8_stepOn_31 rfl rfl ?_
        refine x_getR (pc := 32) hS fX8_70 dX8_stepOn_32 rfl rfl ?_
        refine x_iload (pc := 35) dX8_stepOn_35 rfl ?_
        refine x_aldN (pc := 37) hS dX8_stepOn_37 rfl (by omega) (by decide) ?_
        rw [arr_setA hS0 rfl]
        refine x_iload_n (pc := 38) (i := 2) dX8_stepOn_38 rfl rfl ?_
        refine x_icmp_ne (pc := 39) (tgt := 90) dX8_stepOn_39 (by decide) (fun h39 => ?_) (fun h39 => ?_)
        · first | (rw [arr_setA hS0 rfl, setA_setA, show upd (stepK (arr w 51) (arr w 54 v) nb n s k) (k % nb) (nI (n + 1)) = stepK (arr w 51) (arr w 54 v) nb n s (k + 1) from (if_pos ⟨h39, h51, Int32.not_lt.mp h77⟩).symm]) | (rw [show stepK (arr w 51) (arr w 54 v) nb n s k = stepK (arr w 51) (arr w 54 v) nb n s (k + 1) from (if_neg (by first | exact fun q => h39 q.1 | exact fun q => h51 q.2.1 | exact fun q => absurd h77 (Int32.not_lt.mpr q.2.2))).symm])
          refine x_iinc (pc := 90) (L' := [_, _, _, _, _, _]) dX8_stepOn_90 (by decide) rfl (by first | exact nI_inc _ | rfl) rfl ?_
          refine x_goto (pc := 93) (tgt := 2) dX8_stepOn_93 (by decide) ?_
          exact mJ.weak (wk_v (wk_v (wk_v (wk_v (wk_n (wk_n wk_0)))))) (ih (k + 1) (by omega) (by omega))
        · refine x_aload_n (pc := 42) (i := 0) dX8_stepOn_42 rfl rfl ?_
          refine x_getR (pc := 43) hS fX8_70 dX8_stepOn_43 rfl rfl ?_
          refine x_iload (pc := 46) dX8_stepOn_46 rfl ?_
          refine x_aldN (pc := 48) hS dX8_stepOn_48 rfl (by omega) (by decide) ?_
          rw [arr_setA hS0 rfl]
          refine x_bipush (pc := 49) (v := (-9)) dX8_stepOn_49 (by decide) ?_
          refine x_icmp_ne (pc := 51) (tgt := 90) dX8_stepOn_51 (by decide) (fun h51 => ?_) (fun h51 => ?_)
          · first | (rw [arr_setA hS0 rfl, setA_setA, show upd (stepK (arr w 51) (arr w 54 v) nb n s k) (k % nb) (nI (n + 1)) = stepK (arr w 51) (arr w 54 v) nb n s (k + 1) from (if_pos ⟨h39, h51, Int32.not_lt.mp h77⟩).symm]) | (rw [show stepK (arr w 51) (arr w 54 v) nb n s k = stepK (arr w 51) (arr w 54 v) nb n s (k + 1) from (if_neg (by first | exact fun q => h39 q.1 | exact fun q => h51 q.2.1 | exact fun q => absurd h77 (Int32.not_lt.mpr q.2.2))).symm])
            refine x_iinc (pc := 90) (L' := [_, _, _, _, _, _]) dX8_stepOn_90 (by decide) rfl (by first | exact nI_inc _ | rfl) rfl ?_
            refine x_goto (pc := 93) (tgt := 2) dX8_stepOn_93 (by decide) ?_
            exact mJ.weak (wk_v (wk_v (wk_v (wk_v (wk_n (wk_n wk_0)))))) (ih (k + 1) (by omega) (by omega))
          · refine x_aload_n (pc := 54) (i := 0) dX8_stepOn_54 rfl rfl ?_
            refine x_getR (pc := 55) hS fX8_28 dX8_stepOn_55 rfl rfl ?_
            refine x_iload (pc := 58) dX8_stepOn_58 rfl ?_
            refine x_aldN (pc := 60) hS dX8_stepOn_60 rfl (by omega) (by decide) ?_
            refine x_aload_n (pc := 61) (i := 0) dX8_stepOn_61 rfl rfl ?_
            refine x_getR (pc := 62) hS fX8_28 dX8_stepOn_62 rfl rfl ?_
            refine x_iload (pc := 65) dX8_stepOn_65 rfl ?_
            refine x_aldN (pc := 67) hS dX8_stepOn_67 rfl (by omega) (by decide) ?_
            refine x_ss (pc := 68) (As := [_, _]) rfl lX8_168 dX8_stepOn_68 rfl (Nat.le_of_ble_eq_true rfl) c_X8_apart ?_
            rintro _ _ ⟨rfl, hq⟩
            obtain rfl := hq.symm
            refine x_pushI ?_
            rw [arr_setA_a (by decide), i_far (hsi _ hdl) (hsi _ hml)]
            refine x_aload_n (pc := 71) (i := 0) dX8_stepOn_71 rfl rfl ?_
            refine x_getR (pc := 72) hS fX8_37 dX8_stepOn_72 rfl rfl ?_
            refine x_iload_n (pc := 75) (i := 1) dX8_stepOn_75 rfl rfl ?_
            refine x_aldN (pc := 76) hS dX8_stepOn_76 rfl (by omega) (by decide) ?_
            rw [arr_setA_a (by decide)]
            refine x_icmp_gt (pc := 77) (tgt := 90) dX8_stepOn_77 (by decide) (fun h77 => ?_) (fun h77 => ?_)
            · first | (rw [arr_setA hS0 rfl, setA_setA, show upd (stepK (arr w 51) (arr w 54 v) nb n s k) (k % nb) (nI (n + 1)) = stepK (arr w 51) (arr w 54 v) nb n s (k + 1) from (if_pos ⟨h39, h51, Int32.not_lt.mp h77⟩).symm]) | (rw [show stepK (arr w 51) (arr w 54 v) nb n s k = stepK (arr w 51) (arr w 54 v) nb n s (k + 1) from (if_neg (by first | exact fun q => h39 q.1 | exact fun q => h51 q.2.1 | exact fun q => absurd h77 (Int32.not_lt.mpr q.2.2))).symm])
              refine x_iinc (pc := 90) (L' := [_, _, _, _, _, _]) dX8_stepOn_90 (by decide) rfl (by first | exact nI_inc _ | rfl) rfl ?_
              refine x_goto (pc := 93) (tgt := 2) dX8_stepOn_93 (by decide) ?_
              exact mJ.weak (wk_v (wk_v (wk_v (wk_v (wk_n (wk_n wk_0)))))) (ih (k + 1) (by omega) (by omega))
            · refine x_aload_n (pc := 80) (i := 0) dX8_stepOn_80 rfl rfl ?_
              refine x_getR (pc := 81) hS fX8_70 dX8_stepOn_81 rfl rfl ?_
              refine x_iload (pc := 84) dX8_stepOn_84 rfl ?_
              refine x_iload_n (pc := 86) (i := 2) dX8_stepOn_86 rfl rfl ?_
              refine x_iconst (pc := 87) (v := 1) dX8_stepOn_87 (by decide) ?_
              refine x_iadd (pc := 88) dX8_stepOn_88 ?_
              rw [nI_1]
              refine x_astN (pc := 89) hS dX8_stepOn_89 rfl (by omega) (by decide) (fun hS => ?_)
              first | (rw [arr_setA hS0 rfl, setA_setA, show upd (stepK (arr w 51) (arr w 54 v) nb n s k) (k % nb) (nI (n + 1)) = stepK (arr w 51) (arr w 54 v) nb n s (k + 1) from (if_pos ⟨h39, h51, Int32.not_lt.mp h77⟩).symm]) | (rw [show stepK (arr w 51) (arr w 54 v) nb n s k = stepK (arr w 51) (arr w 54 v) nb n s (k + 1) from (if_neg (by first | exact fun q => h39 q.1 | exact fun q => h51 q.2.1 | exact fun q => absurd h77 (Int32.not_lt.mpr q.2.2))).symm])
              refine x_iinc (pc := 90) (L' := [_, _, _, _, _, _]) dX8_stepOn_90 (by decide) rfl (by first | exact nI_inc _ | rfl) rfl ?_
              refine x_goto (pc := 93) (tgt := 2) dX8_stepOn_93 (by decide) ?_
              exact mJ.weak (wk_v (wk_v (wk_v (wk_v (wk_n (wk_n wk_0)))))) (ih (k + 1) (by omega) (by omega))
  refine mC.of (L := [_, _, _, _, _, _]) okX8_stepOn 3 rfl rfl ?_
  refine x_iconst (pc := 0) (v := 0) dX8_stepOn_0 (by decide) ?_
  refine x_istore_n (pc := 1) (i := 3) (L' := [_, _, _, _, _, _]) dX8_stepOn_1 rfl (by decide) rfl ?_
  exact lp (nb * nb + 1) 0 (by omega) (by omega)
def iniS (σ : Nat → Int32) (pl far : Int32) (old : Nat → Int32) (k : Nat) : Nat → Int32 := fun b => if b < k then (if farE pl (σ b) ≤ far then 1 else -9) else old b
theorem iniS_0 {σ : Nat → Int32} {pl far : Int32} {old : Nat → Int32} : iniS σ pl far old 0 = old := by funext b; unfold iniS; rw [if_neg (by omega)]
theorem iniS_s {σ : Nat → Int32} {pl far : Int32} {old : Nat → Int32} {k : Nat} {x : Int32} (h : (if farE pl (σ k) ≤ far then (1 : Int32) else -9) = x) : upd (iniS σ pl far old k) k x = iniS σ pl far old (k + 1) := by
  funext b
  unfold upd iniS
  by_cases e : b = k
  · subst e; rw [if_pos rfl, if_pos (by omega), h]
  · rw [if_neg e]
    by_cases e2 : b < k
    · rw [if_pos e2, if_pos (show b < k + 1 by omega)]
    · rw [if_neg e2, if_neg (show ¬ b < k + 1 by omega)]
def hitS (σ : Nat → Int32) (far g : Int32) (n : Nat) (s : Nat → Int32) (b : Nat) : Bool := decide (s b = nI n ∧ farE (σ b) g ≤ far)
def mWay (σ : Nat → Int32) (far g : Int32) (nb : Nat) : Nat → Nat → (Nat → Int32) → Int32
  | 0, _, _ => -9
  | m + 1, n, s => if anyN (hitS σ far g n s) nb = true then nI n else mWay σ far g nb m (n + 1) (stepK σ far nb n s (nb * nb))
theorem c_X8_way_no {d : Nat} {w : mW} {v g : Int32} (hS : Shape w) (h : ¬ ((0 ≤ v ∧ v < fld w 44 6) ∧ 0 ≤ g ∧ g ≤ 9)) : mC (d + 1) kX8_way [.ref 44, .int v, .int g] w (fun r w' => r = some (.int (if 0 ≤ v ∧ v < fld w 44 6 then -2 else -1)) ∧ w' = w) := by
  refine mC.of (L := [_, _, _, _, _]) okX8_way 2 rfl rfl ?_
  refine x_aload_n (pc := 0) (i := 0) dX8_way_0 rfl rfl ?_
  refine x_iload_n (pc := 1) (i := 1) dX8_way_1 rfl rfl ?_
  refine x_vs (pc := 2) (As := [_]) rfl hS lX8_161 dX8_way_2 rfl rfl (Nat.le_of_ble_eq_true rfl) (c_X8_isWalker hS) ?_
  rintro _ _ ⟨rfl, hq⟩
  obtain rfl := hq.symm
  refine x_pushI ?_
  refine x_if_ne (pc := 5) (tgt := 10) dX8_way_5 (by decide) (fun h5 => ?_) (fun h5 => ?_)
  · refine x_iload_n (pc := 10) (i := 2) dX8_way_10 rfl rfl ?_
    refine x_iconst (pc := 11) (v := 0) dX8_way_11 (by decide) ?_
    refine x_bipush (pc := 12) (v := 9) dX8_way_12 (by decide) ?_
    refine x_ss (pc := 14) (As := [_, _, _]) rfl lX8_88 dX8_way_14 rfl (Nat.le_of_ble_eq_true rfl) c_X8_within ?_
    rintro _ _ ⟨rfl, hq⟩
    obtain rfl := hq.symm
    refine x_pushI ?_
    refine x_if_ne (pc := 17) (tgt := 23) dX8_way_17 (by decide) (fun h17 => absurd h17 (by rw [b2_n0] at *; exact fun q => h ⟨h5, q⟩)) (fun h17 => ?_)
    refine x_bipush (pc := 20) (v := (-2)) dX8_way_20 (by decide) ?_
    refine x_ri (pc := 22) dX8_way_22 rfl rfl ?_
    exact ⟨by rw [if_pos (b2_n0.mp h5)], rfl⟩
  · refine x_iconst (pc := 8) (v := (-1)) dX8_way_8 (by decide) ?_
    refine x_ri (pc := 9) dX8_way_9 rfl rfl ?_
    exact ⟨by rw [if_neg (b2_e0.mp h5)], rfl⟩
theorem c_X8_way {d : Nat} {w : mW} {g : Int32} {nb nw v : Nat} (hS0 : Shape w) (tb : (fld w 44 5).toInt = (nb : Int)) (hnb : nb ≤ 5) (tw : (fld w 44 6).toInt = (nw : Int)) (hnw : nw ≤ 5) (hv : v < nw) (hg : 0 ≤ g ∧ g ≤ 9) (hsi : ∀ j, j < nb → 0 ≤ (arr w 51 j).toInt ∧ (arr w 51 j).toInt ≤ 9) (hpl : 0 ≤ (arr w 53 v).toInt ∧ (arr w 53 v).toInt ≤ 9) : mC (d + 2) kX8_way [.ref 44, .int (nI v), .int g] w (fun r w' => r = some (.int (if farE (arr w 53 v) g ≤ arr w 54 v then 0 else mWay (arr w 51) (arr w 54 v) g nb nb 1 (iniS (arr w 51) (arr w 53 v) (arr w 54 v) (arr w 65) nb))) ∧ ∃ s', w' = setA w 65 s') := by
  have eb := nI_ofT tb (by omega)
  have tv : (nI v).toInt = (v : Int) := nI_toInt (by omega)
  have hgi : 0 ≤ g.toInt ∧ g.toInt ≤ 9 := ⟨by have := hg.1; (try simp only [b2_e0, b2_n0, Decidable.not_not] at *) <;> (try simp only [i_lt, i_le, i_eq, not_and, not_or, ne_eq, il_0, il_1, il_2, il_3, il_4, il_5, il_6, il_7, il_8, il_9, il_10, il_14, il_15, il_19, il_20, il_24, il_30, il_31, il_44, il_48, il_49, il_52, il_57, il_59, il_60, il_70, il_99, il_100, il_103, il_108, il_114, il_m1, il_m2, il_m3, il_m4, il_m9, il_m10, il_m100] at *) <;> omega, by have := hg.2; (try simp only [b2_e0, b2_n0, Decidable.not_not] at *) <;> (try simp only [i_lt, i_le, i_eq, not_and, not_or, ne_eq, il_0, il_1, il_2, il_3, il_4, il_5, il_6, il_7, il_8, il_9, il_10, il_14, il_15, il_19, il_20, il_24, il_30, il_31, il_44, il_48, il_49, il_52, il_57, il_59, il_60, il_70, il_99, il_100, il_103, il_108, il_114, il_m1, il_m2, il_m3, il_m4, il_m9, il_m10, il_m100] at *) <;> omega⟩
  have lp : ∀ (m n : Nat) (s : Nat → Int32), n + m = nb + 1 → mJ mX0 (d + 2) kX8_way (fun r w' => r = some (.int (mWay (arr w 51) (arr w 54 v) g nb m n s)) ∧ ∃ s', w' = setA w 65 s') 98 [.ref 44, .int (nI v), .int g, .int (nI n), .null] [] (setA w 65 s) := by
    intro m
    induction m with
    | zero =>
      intro n s h1
      have tk : (nI n).toInt = (n : Int) := nI_toInt (by omega)
      have hS := hS0.stA 65 s
      refine x_iload_n (pc := 98) (i := 3) dX8_way_98 rfl rfl ?_
      refine x_aload_n (pc := 99) (i := 0) dX8_way_99 rfl rfl ?_
      refine x_getI (pc := 100) hS fX8_92 dX8_way_100 rfl rfl ?_
      rw [fld_setA]
      refine x_icmp_gt (pc := 103) (tgt := 169) dX8_way_103 (by decide) (fun h103 => ?_) (fun h103 => absurd h103 (by (try simp only [b2_e0, b2_n0, Decidable.not_not] at *) <;> (try simp only [i_lt, i_le, i_eq, not_and, not_or, ne_eq, il_0, il_1, il_2, il_3, il_4, il_5, il_6, il_7, il_8, il_9, il_10, il_14, il_15, il_19, il_20, il_24, il_30, il_31, il_44, il_48, il_49, il_52, il_57, il_59, il_60, il_70, il_99, il_100, il_103, il_108, il_114, il_m1, il_m2, il_m3, il_m4, il_m9, il_m10, il_m100] at *) <;> omega))
      refine x_bipush (pc := 169) (v := (-9)) dX8_way_169 (by decide) ?_
      refine x_ri (pc := 171) dX8_way_171 rfl rfl ?_
      exact ⟨rfl, s, rfl⟩
    | succ m ih =>
      intro n s h1
      have tk : (nI n).toInt = (n : Int) := nI_toInt (by omega)
      have hS := hS0.stA 65 s
      have lq : ∀ (q b : Nat), b ≤ nb → nb < b + q → anyN (hitS (arr w 51) (arr w 54 v) g n s) b = false → mJ mX0 (d + 2) kX8_way (fun r w' => r = some (.int (mWay (arr w 51) (arr w 54 v) g nb (m + 1) n s)) ∧ ∃ s', w' = setA w 65 s') 109 [.ref 44, .int (nI v), .int g, .int (nI n), .int (nI b)] [] (setA w 65 s) := by
        intro q
        induction q with
        | zero => intro b g1 g2; omega
        | succ q ih2 =>
          intro b hb1 hb2 ha
          have tbb : (nI b).toInt = (b : Int) := nI_toInt (by omega)
          refine x_iload (pc := 109) dX8_way_109 rfl ?_
          refine x_aload_n (pc := 111) (i := 0) dX8_way_111 rfl rfl ?_
          refine x_getI (pc := 112) hS fX8_92 dX8_way_112 rfl rfl ?_
          rw [fld_setA]
          refine x_icmp_ge (pc := 115) (tgt := 157) dX8_way_115 (by decide) (fun h115 => ?_) (fun h115 => ?_)
          · refine x_aload_n (pc := 157) (i := 0) dX8_way_157 rfl rfl ?_
            refine x_iload_n (pc := 158) (i := 1) dX8_way_158 rfl rfl ?_
            refine x_iload_n (pc := 159) (i := 3) dX8_way_159 rfl rfl ?_
            refine x_vs (pc := 160) (As := [_, _]) rfl hS lX8_231 dX8_way_160 rfl rfl (Nat.le_of_ble_eq_true rfl) (c_X8_stepOn hS0 tb hnb (by omega) (by omega) hsi) ?_
            rintro _ _ ⟨rfl, hq⟩
            obtain rfl := hq.symm
            refine x_pushV ?_
            refine x_iinc (pc := 163) (L' := [_, _, _, _, _]) dX8_way_163 (by decide) rfl (by first | exact nI_inc _ | rfl) rfl ?_
            refine x_goto (pc := 166) (tgt := 98) dX8_way_166 (by decide) ?_
            rw [mWay, if_neg (by rw [show nb = b by (try simp only [b2_e0, b2_n0, Decidable.not_not] at *) <;> (try simp only [i_lt, i_le, i_eq, not_and, not_or, ne_eq, il_0, il_1, il_2, il_3, il_4, il_5, il_6, il_7, il_8, il_9, il_10, il_14, il_15, il_19, il_20, il_24, il_30, il_31, il_44, il_48, il_49, il_52, il_57, il_59, il_60, il_70, il_99, il_100, il_103, il_108, il_114, il_m1, il_m2, il_m3, il_m4, il_m9, il_m10, il_m100] at *) <;> omega, ha]; decide)]
            exact mJ.weak (wk_v (wk_v (wk_v (wk_v (wk_n wk_0))))) (ih (n + 1) _ (by omega))
          · have hb9 : b < nb := by (try simp only [b2_e0, b2_n0, Decidable.not_not] at *) <;> (try simp only [i_lt, i_le, i_eq, not_and, not_or, ne_eq, il_0, il_1, il_2, il_3, il_4, il_5, il_6, il_7, il_8, il_9, il_10, il_14, il_15, il_19, il_20, il_24, il_30, il_31, il_44, il_48, il_49, il_52, il_57, il_59, il_60, il_70, il_99, il_100, il_103, il_108, il_114, il_m1, il_m2, il_m3, il_m4, il_m9, il_m10, il_m100] at *) <;> omega
            refine x_aload_n (pc := 118) (i := 0) dX8_way_118 rfl rfl ?_
            refine x_getR (pc := 119) hS fX8_70 dX8_way_119 rfl rfl ?_
            refine x_iload (pc := 122) dX8_way_122 rfl ?_
            refine x_aldN (pc := 124) hS dX8_way_124 rfl (by omega) (by decide) ?_
            rw [arr_setA hS0 rfl]
            refine x_iload_n (pc := 125) (i := 3) dX8_way_125 rfl rfl ?_
            refine x_icmp_ne (pc := 126) (tgt := 151) dX8_way_126 (by decide) (fun h126 => ?_) (fun h126 => ?_)
            · refine x_iinc (pc := 151) (L' := [_, _, _, _, _]) dX8_way_151 (by decide) rfl (by first | exact nI_inc _ | rfl) rfl ?_
              refine x_goto (pc := 154) (tgt := 109) dX8_way_154 (by decide) ?_
              exact ih2 (b + 1) (by omega) (by omega) (by rw [anyN, ha, Bool.false_or]; unfold hitS; exact decide_eq_false (by first | exact fun z => h126 z.1 | exact fun z => absurd h146 (Int32.not_lt.mpr z.2)))
            · refine x_aload_n (pc := 129) (i := 0) dX8_way_129 rfl rfl ?_
              refine x_getR (pc := 130) hS fX8_28 dX8_way_130 rfl rfl ?_
              refine x_iload (pc := 133) dX8_way_133 rfl ?_
              refine x_aldN (pc := 135) hS dX8_way_135 rfl (by omega) (by decide) ?_
              refine x_iload_n (pc := 136) (i := 2) dX8_way_136 rfl rfl ?_
              refine x_ss (pc := 137) (As := [_, _]) rfl lX8_168 dX8_way_137 rfl (Nat.le_of_ble_eq_true rfl) c_X8_apart ?_
              rintro _ _ ⟨rfl, hq⟩
              obtain rfl := hq.symm
              refine x_pushI ?_
              rw [arr_setA_a (by decide), i_far (hsi b hb9) hgi]
              refine x_aload_n (pc := 140) (i := 0) dX8_way_140 rfl rfl ?_
              refine x_getR (pc := 141) hS fX8_37 dX8_way_141 rfl rfl ?_
              refine x_iload_n (pc := 144) (i := 1) dX8_way_144 rfl rfl ?_
              refine x_aldN (pc := 145) hS dX8_way_145 rfl (by omega) (by decide) ?_
              rw [arr_setA_a (by decide)]
              refine x_icmp_gt (pc := 146) (tgt := 151) dX8_way_146 (by decide) (fun h146 => ?_) (fun h146 => ?_)
              · refine x_iinc (pc := 151) (L' := [_, _, _, _, _]) dX8_way_151 (by decide) rfl (by first | exact nI_inc _ | rfl) rfl ?_
                refine x_goto (pc := 154) (tgt := 109) dX8_way_154 (by decide) ?_
                exact ih2 (b + 1) (by omega) (by omega) (by rw [anyN, ha, Bool.false_or]; unfold hitS; exact decide_eq_false (by first | exact fun z => h126 z.1 | exact fun z => absurd h146 (Int32.not_lt.mpr z.2)))
              · refine x_iload_n (pc := 149) (i := 3) dX8_way_149 rfl rfl ?_
                refine x_ri (pc := 150) dX8_way_150 rfl rfl ?_
                exact ⟨by rw [mWay, if_pos (anyN_t hb9 (by unfold hitS; exact decide_eq_true ⟨h126, Int32.not_lt.mp h146⟩))], s, rfl⟩
      refine x_iload_n (pc := 98) (i := 3) dX8_way_98 rfl rfl ?_
      refine x_aload_n (pc := 99) (i := 0) dX8_way_99 rfl rfl ?_
      refine x_getI (pc := 100) hS fX8_92 dX8_way_100 rfl rfl ?_
      rw [fld_setA]
      refine x_icmp_gt (pc := 103) (tgt := 169) dX8_way_103 (by decide) (fun h103 => absurd h103 (by (try simp only [b2_e0, b2_n0, Decidable.not_not] at *) <;> (try simp only [i_lt, i_le, i_eq, not_and, not_or, ne_eq, il_0, il_1, il_2, il_3, il_4, il_5, il_6, il_7, il_8, il_9, il_10, il_14, il_15, il_19, il_20, il_24, il_30, il_31, il_44, il_48, il_49, il_52, il_57, il_59, il_60, il_70, il_99, il_100, il_103, il_108, il_114, il_m1, il_m2, il_m3, il_m4, il_m9, il_m10, il_m100] at *) <;> omega)) (fun h103 => ?_)
      refine x_iconst (pc := 106) (v := 0) dX8_way_106 (by decide) ?_
      refine x_istore (pc := 107) (L' := [_, _, _, _, _]) dX8_way_107 (by decide) rfl ?_
      exact lq (nb + 1) 0 (by omega) (by omega) rfl
  have l1 : ¬ farE (arr w 53 v) g ≤ arr w 54 v → ∀ (m k : Nat), k ≤ nb → nb < k + m → mJ mX0 (d + 2) kX8_way (fun r w' => r = some (.int (if farE (arr w 53 v) g ≤ arr w 54 v then 0 else mWay (arr w 51) (arr w 54 v) g nb nb 1 (iniS (arr w 51) (arr w 53 v) (arr w 54 v) (arr w 65) nb))) ∧ ∃ s', w' = setA w 65 s') 46 [.ref 44, .int (nI v), .int g, .int (nI k), .null] [] (setA w 65 (iniS (arr w 51) (arr w 53 v) (arr w 54 v) (arr w 65) k)) := by
    intro hfar m
    induction m with
    | zero => intro k g1 g2; omega
    | succ m ih =>
      intro k hk1 hk2
      have tk : (nI k).toInt = (k : Int) := nI_toInt (by omega)
      have hS := hS0.stA 65 (iniS (arr w 51) (arr w 53 v) (arr w 54 v) (arr w 65) k)
      refine x_iload_n (pc := 46) (i := 3) dX8_way_46 rfl rfl ?_
      refine x_aload_n (pc := 47) (i := 0) dX8_way_47 rfl rfl ?_
      refine x_getI (pc := 48) hS fX8_92 dX8_way_48 rfl rfl ?_
      rw [fld_setA]
      refine x_icmp_ge (pc := 51) (tgt := 96) dX8_way_51 (by decide) (fun h51 => ?_) (fun h51 => ?_)
      · refine x_iconst (pc := 96) (v := 1) dX8_way_96 (by decide) ?_
        refine x_istore_n (pc := 97) (i := 3) (L' := [_, _, _, _, _]) dX8_way_97 rfl (by decide) rfl ?_
        rw [if_neg hfar, show k = nb by (try simp only [b2_e0, b2_n0, Decidable.not_not] at *) <;> (try simp only [i_lt, i_le, i_eq, not_and, not_or, ne_eq, il_0, il_1, il_2, il_3, il_4, il_5, il_6, il_7, il_8, il_9, il_10, il_14, il_15, il_19, il_20, il_24, il_30, il_31, il_44, il_48, il_49, il_52, il_57, il_59, il_60, il_70, il_99, il_100, il_103, il_108, il_114, il_m1, il_m2, il_m3, il_m4, il_m9, il_m10, il_m100] at *) <;> omega]
        exact lp nb 1 _ (by omega)
      · have hk9 : k < nb := by (try simp only [b2_e0, b2_n0, Decidable.not_not] at *) <;> (try simp only [i_lt, i_le, i_eq, not_and, not_or, ne_eq, il_0, il_1, il_2, il_3, il_4, il_5, il_6, il_7, il_8, il_9, il_10, il_14, il_15, il_19, il_20, il_24, il_30, il_31, il_44, il_48, il_49, il_52, il_57, il_59, il_60, il_70, il_99, il_100, il_103, il_108, il_114, il_m1, il_m2, il_m3, il_m4, il_m9, il_m10, il_m100] at *) <;> omega
        refine x_aload_n (pc := 54) (i := 0) dX8_way_54 rfl rfl ?_
        refine x_getR (pc := 55) hS fX8_70 dX8_way_55 rfl rfl ?_
        refine x_iload_n (pc := 58) (i := 3) dX8_way_58 rfl rfl ?_
        refine x_aload_n (pc := 59) (i := 0) dX8_way_59 rfl rfl ?_
        refine x_getR (pc := 60) hS fX8_34 dX8_way_60 rfl rfl ?_
        refine x_iload_n (pc := 63) (i := 1) dX8_way_63 rfl rfl ?_
        refine x_aldN (pc := 64) hS dX8_way_64 rfl (by omega) (by decide) ?_
        refine x_aload_n (pc := 65) (i := 0) dX8_way_65 rfl rfl ?_
        refine x_getR (pc := 66) hS fX8_28 dX8_way_66 rfl rfl ?_
        refine x_iload_n (pc := 69) (i := 3) dX8_way_69 rfl rfl ?_
        refine x_aldN (pc := 70) hS dX8_way_70 rfl (by omega) (by decide) ?_
        refine x_ss (pc := 71) (As := [_, _]) rfl lX8_168 dX8_way_71 rfl (Nat.le_of_ble_eq_true rfl) c_X8_apart ?_
        rintro _ _ ⟨rfl, hq⟩
        obtain rfl := hq.symm
        refine x_pushI ?_
        rw [arr_setA_a (by decide), arr_setA_a (by decide), i_far hpl (hsi k hk9)]
        refine x_aload_n (pc := 74) (i := 0) dX8_way_74 rfl rfl ?_
        refine x_getR (pc := 75) hS fX8_37 dX8_way_75 rfl rfl ?_
        refine x_iload_n (pc := 78) (i := 1) dX8_way_78 rfl rfl ?_
        refine x_aldN (pc := 79) hS dX8_way_79 rfl (by omega) (by decide) ?_
        rw [arr_setA_a (by decide)]
        refine x_icmp_gt (pc := 80) (tgt := 87) dX8_way_80 (by decide) (fun h80 => ?_) (fun h80 => ?_)
        · refine x_bipush (pc := 87) (v := (-9)) dX8_way_87 (by decide) ?_
          refine x_astN (pc := 89) hS dX8_way_89 rfl (by omega) (by decide) (fun hS => ?_)
          rw [arr_setA hS0 rfl, setA_setA, iniS_s (by first | exact if_pos (Int32.not_lt.mp h80) | exact if_neg (Int32.not_le.mpr h80))]
          refine x_iinc (pc := 90) (L' := [_, _, _, _, _]) dX8_way_90 (by decide) rfl (by first | exact nI_inc _ | rfl) rfl ?_
          refine x_goto (pc := 93) (tgt := 46) dX8_way_93 (by decide) ?_
          exact ih (k + 1) (by omega) (by omega)
        · refine x_iconst (pc := 83) (v := 1) dX8_way_83 (by decide) ?_
          refine x_goto (pc := 84) (tgt := 89) dX8_way_84 (by decide) ?_
          refine x_astN (pc := 89) hS dX8_way_89 rfl (by omega) (by decide) (fun hS => ?_)
          rw [arr_setA hS0 rfl, setA_setA, iniS_s (by first | exact if_pos (Int32.not_lt.mp h80) | exact if_neg (Int32.not_le.mpr h80))]
          refine x_iinc (pc := 90) (L' := [_, _, _, _, _]) dX8_way_90 (by decide) rfl (by first | exact nI_inc _ | rfl) rfl ?_
          refine x_goto (pc := 93) (tgt := 46) dX8_way_93 (by decide) ?_
          exact ih (k + 1) (by omega) (by omega)
  have hS := hS0
  refine mC.of (L := [_, _, _, _, _]) okX8_way 2 rfl rfl ?_
  refine x_aload_n (pc := 0) (i := 0) dX8_way_0 rfl rfl ?_
  refine x_iload_n (pc := 1) (i := 1) dX8_way_1 rfl rfl ?_
  refine x_vs (pc := 2) (As := [_]) rfl hS lX8_161 dX8_way_2 rfl rfl (Nat.le_of_ble_eq_true rfl) (c_X8_isWalker hS) ?_
  rintro _ _ ⟨rfl, hq⟩
  obtain rfl := hq.symm
  refine x_pushI ?_
  refine x_if_ne (pc := 5) (tgt := 10) dX8_way_5 (by decide) (fun h5 => ?_) (fun h5 => absurd h5 (by rw [b2_n0, nI_ofT tw (by omega)]; exact ⟨by (try simp only [b2_e0, b2_n0, Decidable.not_not] at *) <;> (try simp only [i_lt, i_le, i_eq, not_and, not_or, ne_eq, il_0, il_1, il_2, il_3, il_4, il_5, il_6, il_7, il_8, il_9, il_10, il_14, il_15, il_19, il_20, il_24, il_30, il_31, il_44, il_48, il_49, il_52, il_57, il_59, il_60, il_70, il_99, il_100, il_103, il_108, il_114, il_m1, il_m2, il_m3, il_m4, il_m9, il_m10, il_m100] at *) <;> omega, by rw [i_lt, nI_toInt (by omega), nI_toInt (by omega)]; omega⟩))
  refine x_iload_n (pc := 10) (i := 2) dX8_way_10 rfl rfl ?_
  refine x_iconst (pc := 11) (v := 0) dX8_way_11 (by decide) ?_
  refine x_bipush (pc := 12) (v := 9) dX8_way_12 (by decide) ?_
  refine x_ss (pc := 14) (As := [_, _, _]) rfl lX8_88 dX8_way_14 rfl (Nat.le_of_ble_eq_true rfl) c_X8_within ?_
  rintro _ _ ⟨rfl, hq⟩
  obtain rfl := hq.symm
  refine x_pushI ?_
  refine x_if_ne (pc := 17) (tgt := 23) dX8_way_17 (by decide) (fun h17 => ?_) (fun h17 => absurd h17 (by rw [b2_n0]; exact hg))
  refine x_aload_n (pc := 23) (i := 0) dX8_way_23 rfl rfl ?_
  refine x_getR (pc := 24) hS fX8_34 dX8_way_24 rfl rfl ?_
  refine x_iload_n (pc := 27) (i := 1) dX8_way_27 rfl rfl ?_
  refine x_aldN (pc := 28) hS dX8_way_28 rfl (by omega) (by decide) ?_
  refine x_iload_n (pc := 29) (i := 2) dX8_way_29 rfl rfl ?_
  refine x_ss (pc := 30) (As := [_, _]) rfl lX8_168 dX8_way_30 rfl (Nat.le_of_ble_eq_true rfl) c_X8_apart ?_
  rintro _ _ ⟨rfl, hq⟩
  obtain rfl := hq.symm
  refine x_pushI ?_
  rw [i_far hpl hgi]
  refine x_aload_n (pc := 33) (i := 0) dX8_way_33 rfl rfl ?_
  refine x_getR (pc := 34) hS fX8_37 dX8_way_34 rfl rfl ?_
  refine x_iload_n (pc := 37) (i := 1) dX8_way_37 rfl rfl ?_
  refine x_aldN (pc := 38) hS dX8_way_38 rfl (by omega) (by decide) ?_
  refine x_icmp_gt (pc := 39) (tgt := 44) dX8_way_39 (by decide) (fun h39 => ?_) (fun h39 => ?_)
  · refine x_iconst (pc := 44) (v := 0) dX8_way_44 (by decide) ?_
    refine x_istore_n (pc := 45) (i := 3) (L' := [_, _, _, _, _]) dX8_way_45 rfl (by decide) rfl ?_
    have h9 := l1 (Int32.not_le.mpr h39) (nb + 1) 0 (by omega) (by omega)
    rw [iniS_0, setA_self hS0 rfl] at h9
    exact h9
  · refine x_iconst (pc := 42) (v := 0) dX8_way_42 (by decide) ?_
    refine x_ri (pc := 43) dX8_way_43 rfl rfl ?_
    exact ⟨by rw [if_pos (Int32.not_lt.mp h39)], arr w 65, by rw [setA_self hS0 rfl]⟩
-- both searches find the same
theorem nr_iff {P x far : Int32} : anyN (nr1 P x far) 10 = true ↔ ∃ p, p < 10 ∧ bt P p = true ∧ farE (nI p) x ≤ far := by
  rw [anyN_iff]
  unfold nr1
  simp only [Bool.and_eq_true, decide_eq_true_eq]
theorem sites_iff {σ : Nat → Int32} {P far : Int32} {p : Nat} (hp : p < 10) : ∀ {k : Nat}, (∀ b, b < k → ∃ s, s < 10 ∧ σ b = nI s) → (bt (sitesE σ P far k) p = true ↔ ∃ b, b < k ∧ anyN (nr1 P (σ b) far) 10 = true ∧ σ b = nI p)
  | 0, _ => ⟨fun h => (by rw [sitesE, bt_0] at h; cases h), fun ⟨_, h, _⟩ => absurd h (Nat.not_lt_zero _)⟩
  | k + 1, hs => by
    have ih := sites_iff (P := P) (far := far) hp (fun b hb => hs b (Nat.lt_succ_of_lt hb))
    obtain ⟨s, hs1, hs2⟩ := hs k (Nat.lt_succ_self k)
    by_cases h : anyN (nr1 P (σ k) far) 10 = true
    · rw [sitesE_y h, b_or, Bool.or_eq_true, ih, hs2, bt_one s hs1 p hp, decide_eq_true_eq]
      constructor
      · rintro (⟨b, h1, h2, h3⟩ | h1)
        · exact ⟨b, by omega, h2, h3⟩
        · exact ⟨k, by omega, h, by rw [hs2, h1]⟩
      · rintro ⟨b, h1, h2, h3⟩
        by_cases e : b = k
        · subst e
          rw [hs2, nI_eq (by omega) (by omega)] at h3
          exact Or.inr h3.symm
        · exact Or.inl ⟨b, by omega, h2, h3⟩
    · rw [sitesE_n h, ih]
      constructor
      · rintro ⟨b, h1, h2, h3⟩
        exact ⟨b, by omega, h2, h3⟩
      · rintro ⟨b, h1, h2, h3⟩
        by_cases e : b = k
        · subst e; exact absurd h2 h
        · exact ⟨b, by omega, h2, h3⟩
theorem nI_n9 {j : Nat} (h : j ≤ 10) : ¬ nI j = -9 := by
  intro e
  have := congrArg Int32.toInt e
  rw [nI_toInt (by omega), il_m9] at this
  omega
theorem stepK_at {σ : Nat → Int32} {far : Int32} {nb n : Nat} {s : Nat → Int32} (hn : n ≤ 5) (hnb : nb ≤ 5) : ∀ {k : Nat}, k ≤ nb * nb → ∀ b, b < nb →
    ((s b = -9 ∧ ∃ a, a < nb ∧ a * nb + b < k ∧ s a = nI n ∧ farE (σ a) (σ b) ≤ far) → stepK σ far nb n s k b = nI (n + 1)) ∧ (¬ (s b = -9 ∧ ∃ a, a < nb ∧ a * nb + b < k ∧ s a = nI n ∧ farE (σ a) (σ b) ≤ far) → stepK σ far nb n s k b = s b)
  | 0, _, b, _ => ⟨fun ⟨_, a, _, h, _⟩ => absurd h (Nat.not_lt_zero _), fun _ => rfl⟩
  | k + 1, hk, b, hb => by
    have ih := stepK_at (σ := σ) (far := far) (s := s) hn hnb (k := k) (by omega)
    have hf : k / nb < nb := Nat.div_lt_of_lt_mul (by omega)
    have ht : k % nb < nb := Nat.mod_lt _ (by omega)
    have hkd : k / nb * nb + k % nb = k := by rw [Nat.mul_comm]; exact Nat.div_add_mod k nb
    have hun : ∀ a, a < nb → a * nb + b = k → b = k % nb ∧ a = k / nb := by
      intro a ha e
      subst e
      refine ⟨?_, ?_⟩
      · rw [Nat.mul_comm, Nat.mul_add_mod, Nat.mod_eq_of_lt hb]
      · rw [Nat.mul_comm, Nat.mul_add_div (by omega), Nat.div_eq_of_lt hb, Nat.add_zero]
    have hfr : stepK σ far nb n s k (k / nb) = nI n ↔ s (k / nb) = nI n := by
      by_cases c : s (k / nb) = -9 ∧ ∃ a, a < nb ∧ a * nb + k / nb < k ∧ s a = nI n ∧ farE (σ a) (σ (k / nb)) ≤ far
      · rw [(ih _ hf).1 c, c.1]
        constructor
        · intro e; rw [nI_eq (by omega) (by omega)] at e; omega
        · intro e; exact absurd e.symm (nI_n9 (by omega))
      · rw [(ih _ hf).2 c]
    by_cases c : stepK σ far nb n s k (k / nb) = nI n ∧ stepK σ far nb n s k (k % nb) = -9 ∧ farE (σ (k / nb)) (σ (k % nb)) ≤ far
    · rw [stepK, if_pos c]
      obtain ⟨c1, c2, c3⟩ := c
      rw [hfr] at c1
      by_cases e : b = k % nb
      · subst e
        have hs9 : s (k % nb) = -9 := by
          by_cases c' : s (k % nb) = -9
          · exact c'
          · rw [(ih _ hb).2 (fun q => c' q.1)] at c2; exact c2
        refine ⟨fun _ => by unfold upd; rw [if_pos rfl], fun q => absurd ⟨hs9, k / nb, hf, by omega, c1, c3⟩ q⟩
      · have e2 : upd (stepK σ far nb n s k) (k % nb) (nI (n + 1)) b = stepK σ far nb n s k b := by unfold upd; rw [if_neg e]
        rw [e2]
        refine ⟨fun q => (ih b hb).1 ⟨q.1, ?_⟩, fun q => (ih b hb).2 (fun z => q ⟨z.1, ?_⟩)⟩
        · obtain ⟨-, a, h1, h2, h3⟩ := q
          exact ⟨a, h1, by rcases Nat.lt_or_ge (a * nb + b) k with g | g; exact g; exact absurd (hun a h1 (by omega)).1 e, h3⟩
        · obtain ⟨-, a, h1, h2, h3⟩ := z
          exact ⟨a, h1, by omega, h3⟩
    · rw [stepK, if_neg c]
      refine ⟨fun q => ?_, fun q => (ih b hb).2 (fun z => q ⟨z.1, ?_⟩)⟩
      · obtain ⟨q0, a, h1, h2, h3, h4⟩ := q
        by_cases g : a * nb + b < k
        · exact (ih b hb).1 ⟨q0, a, h1, g, h3, h4⟩
        · obtain ⟨rfl, rfl⟩ := hun a h1 (by omega)
          by_cases z : ∃ a, a < nb ∧ a * nb + k % nb < k ∧ s a = nI n ∧ farE (σ a) (σ (k % nb)) ≤ far
          · exact (ih _ hb).1 ⟨q0, z⟩
          · exact absurd ⟨hfr.mpr h3, ((ih _ hb).2 (fun y => z y.2)).trans q0, h4⟩ c
      · obtain ⟨-, a, h1, h2, h3⟩ := z
        exact ⟨a, h1, by omega, h3⟩
theorem step_set {σ : Nat → Int32} {far : Int32} {nb n : Nat} {s : Nat → Int32} (hn : n ≤ 5) (hnb : nb ≤ 5) {b : Nat} (hb : b < nb) :
    ((s b = -9 ∧ ∃ a, a < nb ∧ s a = nI n ∧ farE (σ a) (σ b) ≤ far) → stepK σ far nb n s (nb * nb) b = nI (n + 1)) ∧ (¬ (s b = -9 ∧ ∃ a, a < nb ∧ s a = nI n ∧ farE (σ a) (σ b) ≤ far) → stepK σ far nb n s (nb * nb) b = s b) := by
  have h := stepK_at (σ := σ) (far := far) (s := s) hn hnb (k := nb * nb) (Nat.le_refl _) b hb
  have hlt : ∀ a, a < nb → a * nb + b < nb * nb := by
    intro a ha
    have h1 : (a + 1) * nb ≤ nb * nb := Nat.mul_le_mul_right _ ha
    rw [Nat.succ_mul] at h1
    omega
  refine ⟨fun ⟨q, a, h1, h2⟩ => h.1 ⟨q, a, h1, hlt a h1, h2⟩, fun q => h.2 (fun ⟨z, a, h1, h2, h3⟩ => q ⟨z, a, h1, h3⟩)⟩
theorem way_eq {σ : Nat → Int32} {pl far g : Int32} {nb : Nat} (hnb : nb ≤ 5) (hσ : ∀ b, b < nb → ∃ s, s < 10 ∧ σ b = nI s) (hv : ¬ farE pl g ≤ far) :
    ∀ (m n : Nat) (P : Int32) (s : Nat → Int32), n + m = nb + 1 → 1 ≤ n →
      (∀ p, p < 10 → (bt P p = true ↔ nI p = pl ∨ ∃ b, b < nb ∧ ¬ s b = -9 ∧ σ b = nI p)) →
      (∀ b, b < nb → s b = -9 ∨ ∃ j, 1 ≤ j ∧ j ≤ n ∧ s b = nI j) →
      (∀ b, b < nb → farE pl (σ b) ≤ far → ¬ s b = -9) →
      (∀ a, a < nb → ∀ b, b < nb → ∀ j, 1 ≤ j → j < n → s a = nI j → farE (σ a) (σ b) ≤ far → ¬ s b = -9) →
      (∀ a, a < nb → ∀ j, 1 ≤ j → j < n → s a = nI j → ¬ farE (σ a) g ≤ far) →
      xWay (fun P => anyN (nr1 P g far) 10) (fun P => sitesE σ P far nb) m n P = mWay σ far g nb m n s
  | 0, _, _, _, _, _, _, _, _, _, _ => rfl
  | m + 1, n, P, s, hm, hn1, h1, h2, h3, h4, h5 => by
    have hc : anyN (nr1 P g far) 10 = true ↔ anyN (hitS σ far g n s) nb = true := by
      rw [nr_iff, anyN_iff]
      unfold hitS
      simp only [decide_eq_true_eq]
      constructor
      · rintro ⟨p, q1, q2, q3⟩
        rcases (h1 p q1).mp q2 with e | ⟨b, b1, b2, b3⟩
        · rw [e] at q3; exact absurd q3 hv
        · rw [← b3] at q3
          rcases h2 b b1 with e | ⟨j, j1, j2, j3⟩
          · exact absurd e b2
          · rcases Nat.lt_or_ge j n with g1 | g1
            · exact absurd q3 (h5 b b1 j j1 g1 j3)
            · exact ⟨b, b1, by rw [j3, show j = n by omega], q3⟩
      · rintro ⟨b, b1, b2, b3⟩
        obtain ⟨p, p1, p2⟩ := hσ b b1
        exact ⟨p, p1, (h1 p p1).mpr (Or.inr ⟨b, b1, by rw [b2]; exact nI_n9 (by omega), p2⟩), by rw [← p2]; exact b3⟩
    by_cases c : anyN (nr1 P g far) 10 = true
    · rw [mWay, if_pos (hc.mp c), xWay, if_pos c]
    · have c2 : ¬ anyN (hitS σ far g n s) nb = true := fun q => c (hc.mpr q)
      rw [mWay, if_neg c2, xWay, if_neg c]
      have hn5 : n ≤ 5 := by omega
      have st : ∀ b, b < nb → _ := fun b hb => step_set (σ := σ) (far := far) (s := s) hn5 hnb hb
      have ne9 : ∀ b, b < nb → ¬ s b = -9 → ¬ stepK σ far nb n s (nb * nb) b = -9 := fun b hb h => by rw [(st b hb).2 (fun q => h q.1)]; exact h
      have old : ∀ a, a < nb → ∀ j, j < n + 1 → stepK σ far nb n s (nb * nb) a = nI j → s a = nI j := by
        intro a ha j hj e
        by_cases q : s a = -9 ∧ ∃ a', a' < nb ∧ s a' = nI n ∧ farE (σ a') (σ a) ≤ far
        · rw [(st a ha).1 q, nI_eq (by omega) (by omega)] at e; omega
        · rw [(st a ha).2 q] at e; exact e
      have new : ∀ a, a < nb → s a = nI n → ∀ b, b < nb → farE (σ a) (σ b) ≤ far → ¬ stepK σ far nb n s (nb * nb) b = -9 := by
        intro a ha e b hb hf
        by_cases q : s b = -9
        · rw [(st b hb).1 ⟨q, a, ha, e, hf⟩]; exact nI_n9 (by omega)
        · exact ne9 b hb q
      refine way_eq hnb hσ hv m (n + 1) _ _ (by omega) (by omega) ?_ ?_ ?_ ?_ ?_
      · intro p hp
        rw [b_or, Bool.or_eq_true, sites_iff hp hσ, h1 p hp]
        constructor
        · rintro ((e | ⟨b, b1, b2, b3⟩) | ⟨b, b1, b2, b3⟩)
          · exact Or.inl e
          · exact Or.inr ⟨b, b1, ne9 b b1 b2, b3⟩
          · refine Or.inr ⟨b, b1, ?_, b3⟩
            obtain ⟨q, q1, q2, q3⟩ := nr_iff.mp b2
            rcases (h1 q q1).mp q2 with e | ⟨a, a1, a2, a3⟩
            · rw [e] at q3; exact ne9 b b1 (h3 b b1 q3)
            · rw [← a3] at q3
              rcases h2 a a1 with e | ⟨j, j1, j2, j3⟩
              · exact absurd e a2
              · rcases Nat.lt_or_ge j n with g1 | g1
                · exact ne9 b b1 (h4 a a1 b b1 j j1 g1 j3 q3)
                · exact new a a1 (by rw [j3, show j = n by omega]) b b1 q3
        · rintro (e | ⟨b, b1, b2, b3⟩)
          · exact Or.inl (Or.inl e)
          · by_cases q : s b = -9 ∧ ∃ a', a' < nb ∧ s a' = nI n ∧ farE (σ a') (σ b) ≤ far
            · obtain ⟨-, a, a1, a2, a3⟩ := q
              obtain ⟨p', p1, p2⟩ := hσ a a1
              exact Or.inr ⟨b, b1, nr_iff.mpr ⟨p', p1, (h1 p' p1).mpr (Or.inr ⟨a, a1, by rw [a2]; exact nI_n9 (by omega), p2⟩), by rw [← p2]; exact a3⟩, b3⟩
            · rw [(st b b1).2 q] at b2
              exact Or.inl (Or.inr ⟨b, b1, b2, b3⟩)
      · intro b hb
        by_cases q : s b = -9 ∧ ∃ a', a' < nb ∧ s a' = nI n ∧ farE (σ a') (σ b) ≤ far
        · exact Or.inr ⟨n + 1, by omega, by omega, (st b hb).1 q⟩
        · rw [(st b hb).2 q]
          rcases h2 b hb with e | ⟨j, j1, j2, j3⟩
          · exact Or.inl e
          · exact Or.inr ⟨j, j1, by omega, j3⟩
      · exact fun b hb hf => ne9 b hb (h3 b hb hf)
      · intro a ha b hb j j1 j2 j3 hf
        have e := old a ha j j2 j3
        rcases Nat.lt_or_ge j n with g1 | g1
        · exact ne9 b hb (h4 a ha b hb j j1 g1 e hf)
        · exact new a ha (by rw [e, show j = n by omega]) b hb hf
      · intro a ha j j1 j2 j3 hf
        have e := old a ha j j2 j3
        rcases Nat.lt_or_ge j n with g1 | g1
        · exact h5 a ha j j1 g1 e hf
        · exact c2 (anyN_t ha (by unfold hitS; exact decide_eq_true ⟨by rw [e, show j = n by omega], hf⟩))
theorem way_all {σ : Nat → Int32} {pl far g : Int32} {nb : Nat} {old : Nat → Int32} (hnb : nb ≤ 5) (hσ : ∀ b, b < nb → ∃ s, s < 10 ∧ σ b = nI s) (hpl : ∃ s, s < 10 ∧ pl = nI s) :
    xWay (fun P => anyN (nr1 P g far) 10) (fun P => sitesE σ P far nb) (nb + 1) 0 ((1 : Int32) <<< (pl &&& 31)) = if farE pl g ≤ far then 0 else mWay σ far g nb nb 1 (iniS σ pl far old nb) := by
  obtain ⟨s0, hs0, rfl⟩ := hpl
  have hP : ∀ p, p < 10 → (bt ((1 : Int32) <<< (nI s0 &&& 31)) p = true ↔ nI p = nI s0) := fun p hp => by
    rw [bt_one s0 hs0 p hp, decide_eq_true_eq, nI_eq (by omega) (by omega)]
  have hA : ∀ x, anyN (nr1 ((1 : Int32) <<< (nI s0 &&& 31)) x far) 10 = true ↔ farE (nI s0) x ≤ far := by
    intro x
    rw [nr_iff]
    constructor
    · rintro ⟨p, p1, p2, p3⟩
      rw [(hP p p1).mp p2] at p3; exact p3
    · exact fun h => ⟨s0, hs0, (hP s0 hs0).mpr rfl, h⟩
  by_cases c : farE (nI s0) g ≤ far
  · rw [xWay, if_pos ((hA g).mpr c), if_pos c]; rfl
  · rw [xWay, if_neg (fun q => c ((hA g).mp q)), if_neg c]
    have si : ∀ b, b < nb → iniS σ (nI s0) far old nb b = if farE (nI s0) (σ b) ≤ far then 1 else -9 := fun b hb => by unfold iniS; rw [if_pos hb]
    refine way_eq hnb hσ c nb 1 _ _ (by omega) (by omega) ?_ ?_ ?_ ?_ ?_
    · intro p hp
      rw [b_or, Bool.or_eq_true, sites_iff hp hσ, hP p hp]
      refine or_congr Iff.rfl ⟨?_, ?_⟩
      · rintro ⟨b, b1, b2, b3⟩
        exact ⟨b, b1, by rw [si b b1, if_pos ((hA _).mp b2)]; decide, b3⟩
      · rintro ⟨b, b1, b2, b3⟩
        refine ⟨b, b1, (hA _).mpr ?_, b3⟩
        rw [si b b1] at b2
        by_cases q : farE (nI s0) (σ b) ≤ far
        · exact q
        · rw [if_neg q] at b2; exact absurd rfl b2
    · intro b hb
      rw [si b hb]
      by_cases q : farE (nI s0) (σ b) ≤ far
      · rw [if_pos q]; exact Or.inr ⟨1, by omega, by omega, rfl⟩
      · rw [if_neg q]; exact Or.inl rfl
    · intro b hb hf
      rw [si b hb, if_pos hf]; decide
    · intro a _ b _ j j1 j2; omega
    · intro a _ j j1 j2; omega
theorem c_X7_way_no {d : Nat} {w : mW} {v g : Int32} (hS : Shape w) (h : ¬ ((0 ≤ v ∧ v < fld w 7 1) ∧ 0 ≤ g ∧ g ≤ 9)) : mC (d + 1) kX7_way [.ref 0, .int v, .int g] w (fun r w' => r = some (.int (if 0 ≤ v ∧ v < fld w 7 1 then -2 else -1)) ∧ w' = w) := by
  refine mC.of (L := [_, _, _]) okX7_way 0 rfl rfl ?_
  refine x_aload_n (pc := 0) (i := 0) dX7_way_0 rfl rfl ?_
  refine x_getR (pc := 1) hS fX7_28 dX7_way_1 rfl rfl ?_
  refine x_iload_n (pc := 4) (i := 1) dX7_way_4 rfl rfl ?_
  refine x_vs (pc := 5) (As := [_]) rfl hS lX7_123 dX7_way_5 rfl rfl (Nat.le_of_ble_eq_true rfl) (c_X0_hasWalker_7 hS) ?_
  rintro _ _ ⟨rfl, hq⟩
  obtain rfl := hq.symm
  refine x_pushI ?_
  refine x_if_ne (pc := 8) (tgt := 13) dX7_way_8 (by decide) (fun h8 => ?_) (fun h8 => ?_)
  · refine x_iload_n (pc := 13) (i := 2) dX7_way_13 rfl rfl ?_
    refine x_if_lt (pc := 14) (tgt := 23) dX7_way_14 (by decide) (fun h14 => ?_) (fun h14 => ?_)
    · refine x_bipush (pc := 23) (v := (-2)) dX7_way_23 (by decide) ?_
      refine x_ri (pc := 25) dX7_way_25 rfl rfl ?_
      exact ⟨by rw [if_pos (b2_n0.mp h8)], rfl⟩
    · refine x_iload_n (pc := 17) (i := 2) dX7_way_17 rfl rfl ?_
      refine x_bipush (pc := 18) (v := 9) dX7_way_18 (by decide) ?_
      refine x_icmp_le (pc := 20) (tgt := 26) dX7_way_20 (by decide) (fun h20 => ?_) (fun h20 => ?_)
      · exact absurd ⟨b2_n0.mp h8, Int32.not_lt.mp h14, h20⟩ h
      · refine x_bipush (pc := 23) (v := (-2)) dX7_way_23 (by decide) ?_
        refine x_ri (pc := 25) dX7_way_25 rfl rfl ?_
        exact ⟨by rw [if_pos (b2_n0.mp h8)], rfl⟩
  · refine x_iconst (pc := 11) (v := (-1)) dX7_way_11 (by decide) ?_
    refine x_ri (pc := 12) dX7_way_12 rfl rfl ?_
    exact ⟨by rw [if_neg (b2_e0.mp h8)], rfl⟩
theorem c_X7_way {d : Nat} {w : mW} {g : Int32} {nb nw v : Nat} (hS : Shape w) (tb : (fld w 7 0).toInt = (nb : Int)) (hnb : nb ≤ 5) (tw : (fld w 7 1).toInt = (nw : Int)) (hnw : nw ≤ 5) (hv : v < nw) (hg : 0 ≤ g ∧ g ≤ 9) : mC (d + 5) kX7_way [.ref 0, .int (nI v), .int g] w (fun r w' => r = some (.int (xWay (fun P => anyN (nr1 P g (arr w 14 v)) 10) (fun P => sitesE (arr w 11) P (arr w 14 v) nb) (nb + 1) 0 ((1 : Int32) <<< (arr w 13 v &&& 31)))) ∧ w' = w) := by
  have tv : (nI v).toInt = (v : Int) := nI_toInt (by omega)
  refine mC.of (L := [_, _, _]) okX7_way 0 rfl rfl ?_
  refine x_aload_n (pc := 0) (i := 0) dX7_way_0 rfl rfl ?_
  refine x_getR (pc := 1) hS fX7_28 dX7_way_1 rfl rfl ?_
  refine x_iload_n (pc := 4) (i := 1) dX7_way_4 rfl rfl ?_
  refine x_vs (pc := 5) (As := [_]) rfl hS lX7_123 dX7_way_5 rfl rfl (Nat.le_of_ble_eq_true rfl) (c_X0_hasWalker_7 hS) ?_
  rintro _ _ ⟨rfl, hq⟩
  obtain rfl := hq.symm
  refine x_pushI ?_
  refine x_if_ne (pc := 8) (tgt := 13) dX7_way_8 (by decide) (fun h8 => ?_) (fun h8 => absurd h8 (by rw [b2_n0]; exact ⟨by (try simp only [b2_e0, b2_n0, Decidable.not_not] at *) <;> (try simp only [i_lt, i_le, i_eq, not_and, not_or, ne_eq, il_0, il_1, il_2, il_3, il_4, il_5, il_6, il_7, il_8, il_9, il_10, il_14, il_15, il_19, il_20, il_24, il_30, il_31, il_44, il_48, il_49, il_52, il_57, il_59, il_60, il_70, il_99, il_100, il_103, il_108, il_114, il_m1, il_m2, il_m3, il_m4, il_m9, il_m10, il_m100] at *) <;> omega, by (try simp only [b2_e0, b2_n0, Decidable.not_not] at *) <;> (try simp only [i_lt, i_le, i_eq, not_and, not_or, ne_eq, il_0, il_1, il_2, il_3, il_4, il_5, il_6, il_7, il_8, il_9, il_10, il_14, il_15, il_19, il_20, il_24, il_30, il_31, il_44, il_48, il_49, il_52, il_57, il_59, il_60, il_70, il_99, il_100, il_103, il_108, il_114, il_m1, il_m2, il_m3, il_m4, il_m9, il_m10, il_m100] at *) <;> omega⟩))
  refine x_iload_n (pc := 13) (i := 2) dX7_way_13 rfl rfl ?_
  refine x_if_lt (pc := 14) (tgt := 23) dX7_way_14 (by decide) (fun h14 => absurd h14 (by exact Int32.not_lt.mpr hg.1)) (fun h14 => ?_)
  refine x_iload_n (pc := 17) (i := 2) dX7_way_17 rfl rfl ?_
  refine x_bipush (pc := 18) (v := 9) dX7_way_18 (by decide) ?_
  refine x_icmp_le (pc := 20) (tgt := 26) dX7_way_20 (by decide) (fun h20 => ?_) (fun h20 => absurd h20 (by exact not_not_intro hg.2))
  refine x_aload_n (pc := 26) (i := 0) dX7_way_26 rfl rfl ?_
  refine x_getR (pc := 27) hS fX7_28 dX7_way_27 rfl rfl ?_
  refine x_iload_n (pc := 30) (i := 1) dX7_way_30 rfl rfl ?_
  refine x_iload_n (pc := 31) (i := 2) dX7_way_31 rfl rfl ?_
  refine x_vs (pc := 32) (As := [_, _]) rfl hS lX7_188 dX7_way_32 rfl rfl (Nat.le_of_ble_eq_true rfl) (c_X0_fewestTo hS tb hnb tw hnw hv) ?_
  rintro _ _ ⟨rfl, hq⟩
  obtain rfl := hq.symm
  refine x_pushI ?_
  refine x_ri (pc := 35) dX7_way_35 rfl rfl ?_
  exact ⟨rfl, rfl⟩
theorem nine_nI {x : Int32} (h : 0 ≤ x.toInt ∧ x.toInt ≤ 9) : ∃ s, s < 10 ∧ x = nI s := by
  obtain ⟨j, hj, rfl⟩ := nI_of2 (x := x) (M := 9) (n := 9) rfl (by rw [i_lt, il_0]; omega) (by rw [i_le, il_9]; omega)
  exact ⟨j, by omega, rfl⟩
theorem both_way {w : mW} (hI : Inv w) (v g : Int32) : Both kX7_way kX8_way [.int v, .int g] w := by
  intro d
  obtain ⟨hS, nb, nw, nr, hD, hR, hSI, hT⟩ := id hI; obtain ⟨h1, h2, h3, tb, tw, hB, hW, ⟨e1, e2, e3⟩, f8, f9, f10, f11, f12, f13, f14, f15, f16⟩ := id hD
  by_cases hvg : (0 ≤ v ∧ v < fld w 7 1) ∧ 0 ≤ g ∧ g ≤ 9
  · obtain ⟨hv, hg⟩ := hvg
    obtain ⟨j, hj, rfl⟩ := in_nI tw (by omega) hv
    refine mC.mono (c_X7_way (d := d + 15) hS tb h1 tw h2 hj hg) ?_
    rintro _ _ ⟨rfl, hq⟩; obtain rfl := hq.symm
    refine mC.mono (c_X8_way (d := d + 18) hS (by rw [e1]; exact tb) h1 (by rw [e2]; exact tw) h2 hj hg (fun q hq => by rw [f11]; exact (hB q hq).2.2.2) (by rw [f13]; exact (hW j hj).2.1)) ?_
    rw [f11, f13, f14, way_all (old := arr w 65) h1 (fun b hb => nine_nI (hB b hb).2.2.2) (nine_nI (hW j hj).2.1)]
    rintro _ w2 ⟨rfl, s, hq⟩
    exact ⟨rfl, hI.junk (A := [65]) (by rw [hq]; exact hS.stA _ _) (by rw [hq]; exact Gr.rf.stA (by decide) _) (by decide) (by decide) (by decide)⟩
  · refine mC.mono (c_X7_way_no (d := d + 19) hS hvg) ?_
    rintro _ _ ⟨rfl, hq⟩; obtain rfl := hq.symm
    refine mC.mono (c_X8_way_no (d := d + 19) hS (by rw [e2]; exact hvg)) ?_
    rw [e2]
    rintro _ _ ⟨rfl, hq⟩; obtain rfl := hq.symm
    exact ⟨rfl, hI⟩

