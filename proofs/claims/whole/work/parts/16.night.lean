-- nights
abbrev inB (NB : Int32) (lo : Nat → Int32) (j : Nat) : Prop := 0 ≤ lo j ∧ lo j < NB
abbrev paysP (NB : Int32) (pe me lo : Nat → Int32) (j : Nat) : Prop := (0 ≤ lo j ∧ lo j < NB) ∧ pe (lo j).toNatClampNeg ≤ me j
def nMe (NB : Int32) (pe me lo : Nat → Int32) (k : Nat) : Nat → Int32 := fun j => if j < k ∧ paysP NB pe me lo j then me j - pe (lo j).toNatClampNeg else me j
def nLo (NB : Int32) (pe me lo : Nat → Int32) (k : Nat) : Nat → Int32 := fun j => if j < k ∧ ¬ paysP NB pe me lo j then -9 else lo j
def nCo (NB : Int32) (pe me lo co : Nat → Int32) (k : Nat) : Nat → Int32 := fun j => if j < k ∧ ¬ paysP NB pe me lo j then co j + 1 else co j
def outP (NB : Int32) (pe me lo : Nat → Int32) : Nat → Bool := fun j => decide ((0 ≤ lo j ∧ lo j < NB) ∧ ¬ pe (lo j).toNatClampNeg ≤ me j)
theorem c_X0_paysOrGoes_7 {d : Nat} {w : mW} {nb nw j : Nat} (hS : Shape w) (tb : (fld w 7 0).toInt = (nb : Int)) (hnb : nb ≤ 5) (tw : (fld w 7 1).toInt = (nw : Int)) (hnw : nw ≤ 5) (hj : j < nw) : mC (d + 1) kX0_paysOrGoes [.ref 7, .int (nI j)] w (fun r w' => r = some (.int (b2 (paysP (fld w 7 0) (arr w 10) (arr w 12) (arr w 15) j ∨ ¬ inB (fld w 7 0) (arr w 15) j))) ∧ w' = if paysP (fld w 7 0) (arr w 10) (arr w 12) (arr w 15) j then setA w 12 (upd (arr w 12) j (arr w 12 j - arr w 10 (arr w 15 j).toNatClampNeg)) else setA (setA w 15 (upd (arr w 15) j (-9))) 16 (upd (arr w 16) j (arr w 16 j + 1))) := by
  have tk : (nI j).toInt = (j : Int) := nI_toInt (by omega)
  by_cases hp : paysP (fld w 7 0) (arr w 10) (arr w 12) (arr w 15) j
  · simp only [if_pos hp, b2_t (Or.inl hp : paysP (fld w 7 0) (arr w 10) (arr w 12) (arr w 15) j ∨ ¬ inB (fld w 7 0) (arr w 15) j)]
    refine mC.of (L := [_, _, _, _, _]) okX0_paysOrGoes 3 rfl rfl ?_
    refine x_aload_n (pc := 0) (i := 0) dX0_paysOrGoes_0 rfl rfl ?_
    refine x_iload_n (pc := 1) (i := 1) dX0_paysOrGoes_1 rfl rfl ?_
    refine x_vs (pc := 2) (As := [_]) rfl hS lX0_57 dX0_paysOrGoes_2 rfl rfl (Nat.le_of_ble_eq_true rfl) (c_X0_hasWalker_7 hS) ?_
    rintro _ _ ⟨rfl, hq⟩
    obtain rfl := hq.symm
    refine x_pushI ?_
    refine x_if_ne (pc := 5) (tgt := 10) dX0_paysOrGoes_5 (by decide) (fun h5 => ?_) (fun h5 => absurd h5 (by rw [b2_n0]; (try simp only [b2_e0, b2_n0, Decidable.not_not] at *) <;> (try simp only [i_lt, i_le, i_eq, not_and, not_or, ne_eq, il_0, il_1, il_2, il_3, il_4, il_5, il_6, il_7, il_8, il_9, il_10, il_14, il_15, il_19, il_20, il_24, il_30, il_31, il_44, il_48, il_49, il_52, il_57, il_59, il_60, il_70, il_99, il_100, il_103, il_108, il_114, il_m1, il_m2, il_m3, il_m4, il_m9, il_m10, il_m100] at *) <;> omega))
    refine x_aload_n (pc := 10) (i := 0) dX0_paysOrGoes_10 rfl rfl ?_
    refine x_getR (pc := 11) hS fX0_33 dX0_paysOrGoes_11 rfl rfl ?_
    refine x_iload_n (pc := 14) (i := 1) dX0_paysOrGoes_14 rfl rfl ?_
    refine x_aldN (pc := 15) hS dX0_paysOrGoes_15 rfl (by omega) (by decide) ?_
    refine x_istore_n (pc := 16) (i := 2) (L' := [_, _, _, _, _]) dX0_paysOrGoes_16 rfl (by decide) rfl ?_
    refine x_aload_n (pc := 17) (i := 0) dX0_paysOrGoes_17 rfl rfl ?_
    refine x_iload_n (pc := 18) (i := 2) dX0_paysOrGoes_18 rfl rfl ?_
    refine x_vs (pc := 19) (As := [_]) rfl hS lX0_49 dX0_paysOrGoes_19 rfl rfl (Nat.le_of_ble_eq_true rfl) (c_X0_hasBarrow_7 hS) ?_
    rintro _ _ ⟨rfl, hq⟩
    obtain rfl := hq.symm
    refine x_pushI ?_
    refine x_istore_n (pc := 22) (i := 3) (L' := [_, _, _, _, _]) dX0_paysOrGoes_22 rfl (by decide) rfl ?_
    refine x_iload_n (pc := 23) (i := 3) dX0_paysOrGoes_23 rfl rfl ?_
    refine x_if_eq (pc := 24) (tgt := 46) dX0_paysOrGoes_24 (by decide) (fun h24 => ?_) (fun h24 => ?_)
    · refine x_iconst (pc := 46) (v := 0) dX0_paysOrGoes_46 (by decide) ?_
      refine x_istore (pc := 47) (L' := [_, _, _, _, _]) dX0_paysOrGoes_47 (by decide) rfl ?_
      refine x_iload (pc := 49) dX0_paysOrGoes_49 rfl ?_
      refine x_if_eq (pc := 51) (tgt := 72) dX0_paysOrGoes_51 (by decide) (fun _ => ?_) (fun h51 => absurd h51 (by decide))
      refine x_aload_n (pc := 72) (i := 0) dX0_paysOrGoes_72 rfl rfl ?_
      refine x_getR (pc := 73) hS fX0_33 dX0_paysOrGoes_73 rfl rfl ?_
      refine x_iload_n (pc := 76) (i := 1) dX0_paysOrGoes_76 rfl rfl ?_
      refine x_bipush (pc := 77) (v := (-9)) dX0_paysOrGoes_77 (by decide) ?_
      refine x_astN (pc := 79) hS dX0_paysOrGoes_79 rfl (by omega) (by decide) (fun hS => ?_)
      refine x_aload_n (pc := 80) (i := 0) dX0_paysOrGoes_80 rfl rfl ?_
      refine x_getR (pc := 81) hS fX0_36 dX0_paysOrGoes_81 rfl rfl ?_
      refine x_iload_n (pc := 84) (i := 1) dX0_paysOrGoes_84 rfl rfl ?_
      refine x_dup2 (pc := 85) dX0_paysOrGoes_85 rfl rfl ?_
      refine x_aldN (pc := 86) hS dX0_paysOrGoes_86 rfl (by omega) (by decide) ?_
      refine x_iconst (pc := 87) (v := 1) dX0_paysOrGoes_87 (by decide) ?_
      refine x_iadd (pc := 88) dX0_paysOrGoes_88 ?_
      refine x_astN (pc := 89) hS dX0_paysOrGoes_89 rfl (by omega) (by decide) (fun hS => ?_)
      refine x_iload (pc := 90) dX0_paysOrGoes_90 rfl ?_
      refine x_if_ne (pc := 92) (tgt := 99) dX0_paysOrGoes_92 (by decide) (fun h92 => absurd h92 (by decide)) (fun _ => ?_)
      refine x_iload_n (pc := 95) (i := 3) dX0_paysOrGoes_95 rfl rfl ?_
      refine x_if_ne (pc := 96) (tgt := 103) dX0_paysOrGoes_96 (by decide) (fun h96 => ?_) (fun h96 => ?_)
      · refine x_iconst (pc := 103) (v := 0) dX0_paysOrGoes_103 (by decide) ?_
        refine x_ri (pc := 104) dX0_paysOrGoes_104 rfl rfl ?_
        first | (exfalso; (try simp only [paysP, inB] at *) <;> (try simp only [b2_e0, b2_n0, Decidable.not_not] at *) <;> (try simp only [i_lt, i_le, i_eq, not_and, not_or, ne_eq, il_0, il_1, il_2, il_3, il_4, il_5, il_6, il_7, il_8, il_9, il_10, il_14, il_15, il_19, il_20, il_24, il_30, il_31, il_44, il_48, il_49, il_52, il_57, il_59, il_60, il_70, il_99, il_100, il_103, il_108, il_114, il_m1, il_m2, il_m3, il_m4, il_m9, il_m10, il_m100] at *) <;> omega; done) | exact ⟨rfl, rfl⟩ | exact ⟨rfl, by rw [arr_setA_a (by decide)]⟩
      · refine x_iconst (pc := 99) (v := 1) dX0_paysOrGoes_99 (by decide) ?_
        refine x_goto (pc := 100) (tgt := 104) dX0_paysOrGoes_100 (by decide) ?_
        refine x_ri (pc := 104) dX0_paysOrGoes_104 rfl rfl ?_
        first | (exfalso; (try simp only [paysP, inB] at *) <;> (try simp only [b2_e0, b2_n0, Decidable.not_not] at *) <;> (try simp only [i_lt, i_le, i_eq, not_and, not_or, ne_eq, il_0, il_1, il_2, il_3, il_4, il_5, il_6, il_7, il_8, il_9, il_10, il_14, il_15, il_19, il_20, il_24, il_30, il_31, il_44, il_48, il_49, il_52, il_57, il_59, il_60, il_70, il_99, il_100, il_103, il_108, il_114, il_m1, il_m2, il_m3, il_m4, il_m9, il_m10, il_m100] at *) <;> omega; done) | exact ⟨rfl, rfl⟩ | exact ⟨rfl, by rw [arr_setA_a (by decide)]⟩
    · refine x_aload_n (pc := 27) (i := 0) dX0_paysOrGoes_27 rfl rfl ?_
      refine x_getR (pc := 28) hS fX0_24 dX0_paysOrGoes_28 rfl rfl ?_
      refine x_iload_n (pc := 31) (i := 1) dX0_paysOrGoes_31 rfl rfl ?_
      refine x_aldN (pc := 32) hS dX0_paysOrGoes_32 rfl (by omega) (by decide) ?_
      refine x_aload_n (pc := 33) (i := 0) dX0_paysOrGoes_33 rfl rfl ?_
      refine x_getR (pc := 34) hS fX0_18 dX0_paysOrGoes_34 rfl rfl ?_
      refine x_iload_n (pc := 37) (i := 2) dX0_paysOrGoes_37 rfl rfl ?_
      refine x_ald (pc := 38) hS dX0_paysOrGoes_38 rfl (by rw [vp_in_iff]; (try simp only [b2_e0, b2_n0, Decidable.not_not] at *) <;> (try simp only [i_lt, i_le, i_eq, not_and, not_or, ne_eq, il_0, il_1, il_2, il_3, il_4, il_5, il_6, il_7, il_8, il_9, il_10, il_14, il_15, il_19, il_20, il_24, il_30, il_31, il_44, il_48, il_49, il_52, il_57, il_59, il_60, il_70, il_99, il_100, il_103, il_108, il_114, il_m1, il_m2, il_m3, il_m4, il_m9, il_m10, il_m100] at *) <;> omega) ?_
      refine x_icmp_lt (pc := 39) (tgt := 46) dX0_paysOrGoes_39 (by decide) (fun h39 => ?_) (fun h39 => ?_)
      · refine x_iconst (pc := 46) (v := 0) dX0_paysOrGoes_46 (by decide) ?_
        refine x_istore (pc := 47) (L' := [_, _, _, _, _]) dX0_paysOrGoes_47 (by decide) rfl ?_
        refine x_iload (pc := 49) dX0_paysOrGoes_49 rfl ?_
        refine x_if_eq (pc := 51) (tgt := 72) dX0_paysOrGoes_51 (by decide) (fun _ => ?_) (fun h51 => absurd h51 (by decide))
        refine x_aload_n (pc := 72) (i := 0) dX0_paysOrGoes_72 rfl rfl ?_
        refine x_getR (pc := 73) hS fX0_33 dX0_paysOrGoes_73 rfl rfl ?_
        refine x_iload_n (pc := 76) (i := 1) dX0_paysOrGoes_76 rfl rfl ?_
        refine x_bipush (pc := 77) (v := (-9)) dX0_paysOrGoes_77 (by decide) ?_
        refine x_astN (pc := 79) hS dX0_paysOrGoes_79 rfl (by omega) (by decide) (fun hS => ?_)
        refine x_aload_n (pc := 80) (i := 0) dX0_paysOrGoes_80 rfl rfl ?_
        refine x_getR (pc := 81) hS fX0_36 dX0_paysOrGoes_81 rfl rfl ?_
        refine x_iload_n (pc := 84) (i := 1) dX0_paysOrGoes_84 rfl rfl ?_
        refine x_dup2 (pc := 85) dX0_paysOrGoes_85 rfl rfl ?_
        refine x_aldN (pc := 86) hS dX0_paysOrGoes_86 rfl (by omega) (by decide) ?_
        refine x_iconst (pc := 87) (v := 1) dX0_paysOrGoes_87 (by decide) ?_
        refine x_iadd (pc := 88) dX0_paysOrGoes_88 ?_
        refine x_astN (pc := 89) hS dX0_paysOrGoes_89 rfl (by omega) (by decide) (fun hS => ?_)
        refine x_iload (pc := 90) dX0_paysOrGoes_90 rfl ?_
        refine x_if_ne (pc := 92) (tgt := 99) dX0_paysOrGoes_92 (by decide) (fun h92 => absurd h92 (by decide)) (fun _ => ?_)
        refine x_iload_n (pc := 95) (i := 3) dX0_paysOrGoes_95 rfl rfl ?_
        refine x_if_ne (pc := 96) (tgt := 103) dX0_paysOrGoes_96 (by decide) (fun h96 => ?_) (fun h96 => ?_)
        · refine x_iconst (pc := 103) (v := 0) dX0_paysOrGoes_103 (by decide) ?_
          refine x_ri (pc := 104) dX0_paysOrGoes_104 rfl rfl ?_
          first | (exfalso; (try simp only [paysP, inB] at *) <;> (try simp only [b2_e0, b2_n0, Decidable.not_not] at *) <;> (try simp only [i_lt, i_le, i_eq, not_and, not_or, ne_eq, il_0, il_1, il_2, il_3, il_4, il_5, il_6, il_7, il_8, il_9, il_10, il_14, il_15, il_19, il_20, il_24, il_30, il_31, il_44, il_48, il_49, il_52, il_57, il_59, il_60, il_70, il_99, il_100, il_103, il_108, il_114, il_m1, il_m2, il_m3, il_m4, il_m9, il_m10, il_m100] at *) <;> omega; done) | exact ⟨rfl, rfl⟩ | exact ⟨rfl, by rw [arr_setA_a (by decide)]⟩
        · refine x_iconst (pc := 99) (v := 1) dX0_paysOrGoes_99 (by decide) ?_
          refine x_goto (pc := 100) (tgt := 104) dX0_paysOrGoes_100 (by decide) ?_
          refine x_ri (pc := 104) dX0_paysOrGoes_104 rfl rfl ?_
          first | (exfalso; (try simp only [paysP, inB] at *) <;> (try simp only [b2_e0, b2_n0, Decidable.not_not] at *) <;> (try simp only [i_lt, i_le, i_eq, not_and, not_or, ne_eq, il_0, il_1, il_2, il_3, il_4, il_5, il_6, il_7, il_8, il_9, il_10, il_14, il_15, il_19, il_20, il_24, il_30, il_31, il_44, il_48, il_49, il_52, il_57, il_59, il_60, il_70, il_99, il_100, il_103, il_108, il_114, il_m1, il_m2, il_m3, il_m4, il_m9, il_m10, il_m100] at *) <;> omega; done) | exact ⟨rfl, rfl⟩ | exact ⟨rfl, by rw [arr_setA_a (by decide)]⟩
      · refine x_iconst (pc := 42) (v := 1) dX0_paysOrGoes_42 (by decide) ?_
        refine x_goto (pc := 43) (tgt := 47) dX0_paysOrGoes_43 (by decide) ?_
        refine x_istore (pc := 47) (L' := [_, _, _, _, _]) dX0_paysOrGoes_47 (by decide) rfl ?_
        refine x_iload (pc := 49) dX0_paysOrGoes_49 rfl ?_
        refine x_if_eq (pc := 51) (tgt := 72) dX0_paysOrGoes_51 (by decide) (fun h51 => absurd h51 (by decide)) (fun _ => ?_)
        refine x_aload_n (pc := 54) (i := 0) dX0_paysOrGoes_54 rfl rfl ?_
        refine x_getR (pc := 55) hS fX0_24 dX0_paysOrGoes_55 rfl rfl ?_
        refine x_iload_n (pc := 58) (i := 1) dX0_paysOrGoes_58 rfl rfl ?_
        refine x_dup2 (pc := 59) dX0_paysOrGoes_59 rfl rfl ?_
        refine x_aldN (pc := 60) hS dX0_paysOrGoes_60 rfl (by omega) (by decide) ?_
        refine x_aload_n (pc := 61) (i := 0) dX0_paysOrGoes_61 rfl rfl ?_
        refine x_getR (pc := 62) hS fX0_18 dX0_paysOrGoes_62 rfl rfl ?_
        refine x_iload_n (pc := 65) (i := 2) dX0_paysOrGoes_65 rfl rfl ?_
        refine x_ald (pc := 66) hS dX0_paysOrGoes_66 rfl (by rw [vp_in_iff]; (try simp only [b2_e0, b2_n0, Decidable.not_not] at *) <;> (try simp only [i_lt, i_le, i_eq, not_and, not_or, ne_eq, il_0, il_1, il_2, il_3, il_4, il_5, il_6, il_7, il_8, il_9, il_10, il_14, il_15, il_19, il_20, il_24, il_30, il_31, il_44, il_48, il_49, il_52, il_57, il_59, il_60, il_70, il_99, il_100, il_103, il_108, il_114, il_m1, il_m2, il_m3, il_m4, il_m9, il_m10, il_m100] at *) <;> omega) ?_
        refine x_isub (pc := 67) dX0_paysOrGoes_67 ?_
        refine x_astN (pc := 68) hS dX0_paysOrGoes_68 rfl (by omega) (by decide) (fun hS => ?_)
        refine x_goto (pc := 69) (tgt := 90) dX0_paysOrGoes_69 (by decide) ?_
        refine x_iload (pc := 90) dX0_paysOrGoes_90 rfl ?_
        refine x_if_ne (pc := 92) (tgt := 99) dX0_paysOrGoes_92 (by decide) (fun _ => ?_) (fun h92 => absurd h92 (by decide))
        refine x_iconst (pc := 99) (v := 1) dX0_paysOrGoes_99 (by decide) ?_
        refine x_goto (pc := 100) (tgt := 104) dX0_paysOrGoes_100 (by decide) ?_
        refine x_ri (pc := 104) dX0_paysOrGoes_104 rfl rfl ?_
        first | (exfalso; (try simp only [paysP, inB] at *) <;> (try simp only [b2_e0, b2_n0, Decidable.not_not] at *) <;> (try simp only [i_lt, i_le, i_eq, not_and, not_or, ne_eq, il_0, il_1, il_2, il_3, il_4, il_5, il_6, il_7, il_8, il_9, il_10, il_14, il_15, il_19, il_20, il_24, il_30, il_31, il_44, il_48, il_49, il_52, il_57, il_59, il_60, il_70, il_99, il_100, il_103, il_108, il_114, il_m1, il_m2, il_m3, il_m4, il_m9, il_m10, il_m100] at *) <;> omega; done) | exact ⟨rfl, rfl⟩ | exact ⟨rfl, by rw [arr_setA_a (by decide)]⟩
  · by_cases hi : inB (fld w 7 0) (arr w 15) j
    · simp only [if_neg hp, b2_f (fun q => q.elim hp (fun z => z hi) : ¬ (paysP (fld w 7 0) (arr w 10) (arr w 12) (arr w 15) j ∨ ¬ inB (fld w 7 0) (arr w 15) j))]
      refine mC.of (L := [_, _, _, _, _]) okX0_paysOrGoes 3 rfl rfl ?_
      refine x_aload_n (pc := 0) (i := 0) dX0_paysOrGoes_0 rfl rfl ?_
      refine x_iload_n (pc := 1) (i := 1) dX0_paysOrGoes_1 rfl rfl ?_
      refine x_vs (pc := 2) (As := [_]) rfl hS lX0_57 dX0_paysOrGoes_2 rfl rfl (Nat.le_of_ble_eq_true rfl) (c_X0_hasWalker_7 hS) ?_
      rintro _ _ ⟨rfl, hq⟩
      obtain rfl := hq.symm
      refine x_pushI ?_
      refine x_if_ne (pc := 5) (tgt := 10) dX0_paysOrGoes_5 (by decide) (fun h5 => ?_) (fun h5 => absurd h5 (by rw [b2_n0]; (try simp only [b2_e0, b2_n0, Decidable.not_not] at *) <;> (try simp only [i_lt, i_le, i_eq, not_and, not_or, ne_eq, il_0, il_1, il_2, il_3, il_4, il_5, il_6, il_7, il_8, il_9, il_10, il_14, il_15, il_19, il_20, il_24, il_30, il_31, il_44, il_48, il_49, il_52, il_57, il_59, il_60, il_70, il_99, il_100, il_103, il_108, il_114, il_m1, il_m2, il_m3, il_m4, il_m9, il_m10, il_m100] at *) <;> omega))
      refine x_aload_n (pc := 10) (i := 0) dX0_paysOrGoes_10 rfl rfl ?_
      refine x_getR (pc := 11) hS fX0_33 dX0_paysOrGoes_11 rfl rfl ?_
      refine x_iload_n (pc := 14) (i := 1) dX0_paysOrGoes_14 rfl rfl ?_
      refine x_aldN (pc := 15) hS dX0_paysOrGoes_15 rfl (by omega) (by decide) ?_
      refine x_istore_n (pc := 16) (i := 2) (L' := [_, _, _, _, _]) dX0_paysOrGoes_16 rfl (by decide) rfl ?_
      refine x_aload_n (pc := 17) (i := 0) dX0_paysOrGoes_17 rfl rfl ?_
      refine x_iload_n (pc := 18) (i := 2) dX0_paysOrGoes_18 rfl rfl ?_
      refine x_vs (pc := 19) (As := [_]) rfl hS lX0_49 dX0_paysOrGoes_19 rfl rfl (Nat.le_of_ble_eq_true rfl) (c_X0_hasBarrow_7 hS) ?_
      rintro _ _ ⟨rfl, hq⟩
      obtain rfl := hq.symm
      refine x_pushI ?_
      refine x_istore_n (pc := 22) (i := 3) (L' := [_, _, _, _, _]) dX0_paysOrGoes_22 rfl (by decide) rfl ?_
      refine x_iload_n (pc := 23) (i := 3) dX0_paysOrGoes_23 rfl rfl ?_
      refine x_if_eq (pc := 24) (tgt := 46) dX0_paysOrGoes_24 (by decide) (fun h24 => ?_) (fun h24 => ?_)
      · refine x_iconst (pc := 46) (v := 0) dX0_paysOrGoes_46 (by decide) ?_
        refine x_istore (pc := 47) (L' := [_, _, _, _, _]) dX0_paysOrGoes_47 (by decide) rfl ?_
        refine x_iload (pc := 49) dX0_paysOrGoes_49 rfl ?_
        refine x_if_eq (pc := 51) (tgt := 72) dX0_paysOrGoes_51 (by decide) (fun _ => ?_) (fun h51 => absurd h51 (by decide))
        refine x_aload_n (pc := 72) (i := 0) dX0_paysOrGoes_72 rfl rfl ?_
        refine x_getR (pc := 73) hS fX0_33 dX0_paysOrGoes_73 rfl rfl ?_
        refine x_iload_n (pc := 76) (i := 1) dX0_paysOrGoes_76 rfl rfl ?_
        refine x_bipush (pc := 77) (v := (-9)) dX0_paysOrGoes_77 (by decide) ?_
        refine x_astN (pc := 79) hS dX0_paysOrGoes_79 rfl (by omega) (by decide) (fun hS => ?_)
        refine x_aload_n (pc := 80) (i := 0) dX0_paysOrGoes_80 rfl rfl ?_
        refine x_getR (pc := 81) hS fX0_36 dX0_paysOrGoes_81 rfl rfl ?_
        refine x_iload_n (pc := 84) (i := 1) dX0_paysOrGoes_84 rfl rfl ?_
        refine x_dup2 (pc := 85) dX0_paysOrGoes_85 rfl rfl ?_
        refine x_aldN (pc := 86) hS dX0_paysOrGoes_86 rfl (by omega) (by decide) ?_
        refine x_iconst (pc := 87) (v := 1) dX0_paysOrGoes_87 (by decide) ?_
        refine x_iadd (pc := 88) dX0_paysOrGoes_88 ?_
        refine x_astN (pc := 89) hS dX0_paysOrGoes_89 rfl (by omega) (by decide) (fun hS => ?_)
        refine x_iload (pc := 90) dX0_paysOrGoes_90 rfl ?_
        refine x_if_ne (pc := 92) (tgt := 99) dX0_paysOrGoes_92 (by decide) (fun h92 => absurd h92 (by decide)) (fun _ => ?_)
        refine x_iload_n (pc := 95) (i := 3) dX0_paysOrGoes_95 rfl rfl ?_
        refine x_if_ne (pc := 96) (tgt := 103) dX0_paysOrGoes_96 (by decide) (fun h96 => ?_) (fun h96 => ?_)
        · refine x_iconst (pc := 103) (v := 0) dX0_paysOrGoes_103 (by decide) ?_
          refine x_ri (pc := 104) dX0_paysOrGoes_104 rfl rfl ?_
          first | (exfalso; (try simp only [paysP, inB] at *) <;> (try simp only [b2_e0, b2_n0, Decidable.not_not] at *) <;> (try simp only [i_lt, i_le, i_eq, not_and, not_or, ne_eq, il_0, il_1, il_2, il_3, il_4, il_5, il_6, il_7, il_8, il_9, il_10, il_14, il_15, il_19, il_20, il_24, il_30, il_31, il_44, il_48, il_49, il_52, il_57, il_59, il_60, il_70, il_99, il_100, il_103, il_108, il_114, il_m1, il_m2, il_m3, il_m4, il_m9, il_m10, il_m100] at *) <;> omega; done) | exact ⟨rfl, rfl⟩ | exact ⟨rfl, by rw [arr_setA_a (by decide)]⟩
        · refine x_iconst (pc := 99) (v := 1) dX0_paysOrGoes_99 (by decide) ?_
          refine x_goto (pc := 100) (tgt := 104) dX0_paysOrGoes_100 (by decide) ?_
          refine x_ri (pc := 104) dX0_paysOrGoes_104 rfl rfl ?_
          first | (exfalso; (try simp only [paysP, inB] at *) <;> (try simp only [b2_e0, b2_n0, Decidable.not_not] at *) <;> (try simp only [i_lt, i_le, i_eq, not_and, not_or, ne_eq, il_0, il_1, il_2, il_3, il_4, il_5, il_6, il_7, il_8, il_9, il_10, il_14, il_15, il_19, il_20, il_24, il_30, il_31, il_44, il_48, il_49, il_52, il_57, il_59, il_60, il_70, il_99, il_100, il_103, il_108, il_114, il_m1, il_m2, il_m3, il_m4, il_m9, il_m10, il_m100] at *) <;> omega; done) | exact ⟨rfl, rfl⟩ | exact ⟨rfl, by rw [arr_setA_a (by decide)]⟩
      · refine x_aload_n (pc := 27) (i := 0) dX0_paysOrGoes_27 rfl rfl ?_
        refine x_getR (pc := 28) hS fX0_24 dX0_paysOrGoes_28 rfl rfl ?_
        refine x_iload_n (pc := 31) (i := 1) dX0_paysOrGoes_31 rfl rfl ?_
        refine x_aldN (pc := 32) hS dX0_paysOrGoes_32 rfl (by omega) (by decide) ?_
        refine x_aload_n (pc := 33) (i := 0) dX0_paysOrGoes_33 rfl rfl ?_
        refine x_getR (pc := 34) hS fX0_18 dX0_paysOrGoes_34 rfl rfl ?_
        refine x_iload_n (pc := 37) (i := 2) dX0_paysOrGoes_37 rfl rfl ?_
        refine x_ald (pc := 38) hS dX0_paysOrGoes_38 rfl (by rw [vp_in_iff]; (try simp only [b2_e0, b2_n0, Decidable.not_not] at *) <;> (try simp only [i_lt, i_le, i_eq, not_and, not_or, ne_eq, il_0, il_1, il_2, il_3, il_4, il_5, il_6, il_7, il_8, il_9, il_10, il_14, il_15, il_19, il_20, il_24, il_30, il_31, il_44, il_48, il_49, il_52, il_57, il_59, il_60, il_70, il_99, il_100, il_103, il_108, il_114, il_m1, il_m2, il_m3, il_m4, il_m9, il_m10, il_m100] at *) <;> omega) ?_
        refine x_icmp_lt (pc := 39) (tgt := 46) dX0_paysOrGoes_39 (by decide) (fun h39 => ?_) (fun h39 => ?_)
        · refine x_iconst (pc := 46) (v := 0) dX0_paysOrGoes_46 (by decide) ?_
          refine x_istore (pc := 47) (L' := [_, _, _, _, _]) dX0_paysOrGoes_47 (by decide) rfl ?_
          refine x_iload (pc := 49) dX0_paysOrGoes_49 rfl ?_
          refine x_if_eq (pc := 51) (tgt := 72) dX0_paysOrGoes_51 (by decide) (fun _ => ?_) (fun h51 => absurd h51 (by decide))
          refine x_aload_n (pc := 72) (i := 0) dX0_paysOrGoes_72 rfl rfl ?_
          refine x_getR (pc := 73) hS fX0_33 dX0_paysOrGoes_73 rfl rfl ?_
          refine x_iload_n (pc := 76) (i := 1) dX0_paysOrGoes_76 rfl rfl ?_
          refine x_bipush (pc := 77) (v := (-9)) dX0_paysOrGoes_77 (by decide) ?_
          refine x_astN (pc := 79) hS dX0_paysOrGoes_79 rfl (by omega) (by decide) (fun hS => ?_)
          refine x_aload_n (pc := 80) (i := 0) dX0_paysOrGoes_80 rfl rfl ?_
          refine x_getR (pc := 81) hS fX0_36 dX0_paysOrGoes_81 rfl rfl ?_
          refine x_iload_n (pc := 84) (i := 1) dX0_paysOrGoes_84 rfl rfl ?_
          refine x_dup2 (pc := 85) dX0_paysOrGoes_85 rfl rfl ?_
          refine x_aldN (pc := 86) hS dX0_paysOrGoes_86 rfl (by omega) (by decide) ?_
          refine x_iconst (pc := 87) (v := 1) dX0_paysOrGoes_87 (by decide) ?_
          refine x_iadd (pc := 88) dX0_paysOrGoes_88 ?_
          refine x_astN (pc := 89) hS dX0_paysOrGoes_89 rfl (by omega) (by decide) (fun hS => ?_)
          refine x_iload (pc := 90) dX0_paysOrGoes_90 rfl ?_
          refine x_if_ne (pc := 92) (tgt := 99) dX0_paysOrGoes_92 (by decide) (fun h92 => absurd h92 (by decide)) (fun _ => ?_)
          refine x_iload_n (pc := 95) (i := 3) dX0_paysOrGoes_95 rfl rfl ?_
          refine x_if_ne (pc := 96) (tgt := 103) dX0_paysOrGoes_96 (by decide) (fun h96 => ?_) (fun h96 => ?_)
          · refine x_iconst (pc := 103) (v := 0) dX0_paysOrGoes_103 (by decide) ?_
            refine x_ri (pc := 104) dX0_paysOrGoes_104 rfl rfl ?_
            first | (exfalso; (try simp only [paysP, inB] at *) <;> (try simp only [b2_e0, b2_n0, Decidable.not_not] at *) <;> (try simp only [i_lt, i_le, i_eq, not_and, not_or, ne_eq, il_0, il_1, il_2, il_3, il_4, il_5, il_6, il_7, il_8, il_9, il_10, il_14, il_15, il_19, il_20, il_24, il_30, il_31, il_44, il_48, il_49, il_52, il_57, il_59, il_60, il_70, il_99, il_100, il_103, il_108, il_114, il_m1, il_m2, il_m3, il_m4, il_m9, il_m10, il_m100] at *) <;> omega; done) | exact ⟨rfl, rfl⟩ | exact ⟨rfl, by rw [arr_setA_a (by decide)]⟩
          · refine x_iconst (pc := 99) (v := 1) dX0_paysOrGoes_99 (by decide) ?_
            refine x_goto (pc := 100) (tgt := 104) dX0_paysOrGoes_100 (by decide) ?_
            refine x_ri (pc := 104) dX0_paysOrGoes_104 rfl rfl ?_
            first | (exfalso; (try simp only [paysP, inB] at *) <;> (try simp only [b2_e0, b2_n0, Decidable.not_not] at *) <;> (try simp only [i_lt, i_le, i_eq, not_and, not_or, ne_eq, il_0, il_1, il_2, il_3, il_4, il_5, il_6, il_7, il_8, il_9, il_10, il_14, il_15, il_19, il_20, il_24, il_30, il_31, il_44, il_48, il_49, il_52, il_57, il_59, il_60, il_70, il_99, il_100, il_103, il_108, il_114, il_m1, il_m2, il_m3, il_m4, il_m9, il_m10, il_m100] at *) <;> omega; done) | exact ⟨rfl, rfl⟩ | exact ⟨rfl, by rw [arr_setA_a (by decide)]⟩
        · refine x_iconst (pc := 42) (v := 1) dX0_paysOrGoes_42 (by decide) ?_
          refine x_goto (pc := 43) (tgt := 47) dX0_paysOrGoes_43 (by decide) ?_
          refine x_istore (pc := 47) (L' := [_, _, _, _, _]) dX0_paysOrGoes_47 (by decide) rfl ?_
          refine x_iload (pc := 49) dX0_paysOrGoes_49 rfl ?_
          refine x_if_eq (pc := 51) (tgt := 72) dX0_paysOrGoes_51 (by decide) (fun h51 => absurd h51 (by decide)) (fun _ => ?_)
          refine x_aload_n (pc := 54) (i := 0) dX0_paysOrGoes_54 rfl rfl ?_
          refine x_getR (pc := 55) hS fX0_24 dX0_paysOrGoes_55 rfl rfl ?_
          refine x_iload_n (pc := 58) (i := 1) dX0_paysOrGoes_58 rfl rfl ?_
          refine x_dup2 (pc := 59) dX0_paysOrGoes_59 rfl rfl ?_
          refine x_aldN (pc := 60) hS dX0_paysOrGoes_60 rfl (by omega) (by decide) ?_
          refine x_aload_n (pc := 61) (i := 0) dX0_paysOrGoes_61 rfl rfl ?_
          refine x_getR (pc := 62) hS fX0_18 dX0_paysOrGoes_62 rfl rfl ?_
          refine x_iload_n (pc := 65) (i := 2) dX0_paysOrGoes_65 rfl rfl ?_
          refine x_ald (pc := 66) hS dX0_paysOrGoes_66 rfl (by rw [vp_in_iff]; (try simp only [b2_e0, b2_n0, Decidable.not_not] at *) <;> (try simp only [i_lt, i_le, i_eq, not_and, not_or, ne_eq, il_0, il_1, il_2, il_3, il_4, il_5, il_6, il_7, il_8, il_9, il_10, il_14, il_15, il_19, il_20, il_24, il_30, il_31, il_44, il_48, il_49, il_52, il_57, il_59, il_60, il_70, il_99, il_100, il_103, il_108, il_114, il_m1, il_m2, il_m3, il_m4, il_m9, il_m10, il_m100] at *) <;> omega) ?_
          refine x_isub (pc := 67) dX0_paysOrGoes_67 ?_
          refine x_astN (pc := 68) hS dX0_paysOrGoes_68 rfl (by omega) (by decide) (fun hS => ?_)
          refine x_goto (pc := 69) (tgt := 90) dX0_paysOrGoes_69 (by decide) ?_
          refine x_iload (pc := 90) dX0_paysOrGoes_90 rfl ?_
          refine x_if_ne (pc := 92) (tgt := 99) dX0_paysOrGoes_92 (by decide) (fun _ => ?_) (fun h92 => absurd h92 (by decide))
          refine x_iconst (pc := 99) (v := 1) dX0_paysOrGoes_99 (by decide) ?_
          refine x_goto (pc := 100) (tgt := 104) dX0_paysOrGoes_100 (by decide) ?_
          refine x_ri (pc := 104) dX0_paysOrGoes_104 rfl rfl ?_
          first | (exfalso; (try simp only [paysP, inB] at *) <;> (try simp only [b2_e0, b2_n0, Decidable.not_not] at *) <;> (try simp only [i_lt, i_le, i_eq, not_and, not_or, ne_eq, il_0, il_1, il_2, il_3, il_4, il_5, il_6, il_7, il_8, il_9, il_10, il_14, il_15, il_19, il_20, il_24, il_30, il_31, il_44, il_48, il_49, il_52, il_57, il_59, il_60, il_70, il_99, il_100, il_103, il_108, il_114, il_m1, il_m2, il_m3, il_m4, il_m9, il_m10, il_m100] at *) <;> omega; done) | exact ⟨rfl, rfl⟩ | exact ⟨rfl, by rw [arr_setA_a (by decide)]⟩
    · simp only [if_neg hp, b2_t (Or.inr hi : paysP (fld w 7 0) (arr w 10) (arr w 12) (arr w 15) j ∨ ¬ inB (fld w 7 0) (arr w 15) j)]
      refine mC.of (L := [_, _, _, _, _]) okX0_paysOrGoes 3 rfl rfl ?_
      refine x_aload_n (pc := 0) (i := 0) dX0_paysOrGoes_0 rfl rfl ?_
      refine x_iload_n (pc := 1) (i := 1) dX0_paysOrGoes_1 rfl rfl ?_
      refine x_vs (pc := 2) (As := [_]) rfl hS lX0_57 dX0_paysOrGoes_2 rfl rfl (Nat.le_of_ble_eq_true rfl) (c_X0_hasWalker_7 hS) ?_
      rintro _ _ ⟨rfl, hq⟩
      obtain rfl := hq.symm
      refine x_pushI ?_
      refine x_if_ne (pc := 5) (tgt := 10) dX0_paysOrGoes_5 (by decide) (fun h5 => ?_) (fun h5 => absurd h5 (by rw [b2_n0]; (try simp only [b2_e0, b2_n0, Decidable.not_not] at *) <;> (try simp only [i_lt, i_le, i_eq, not_and, not_or, ne_eq, il_0, il_1, il_2, il_3, il_4, il_5, il_6, il_7, il_8, il_9, il_10, il_14, il_15, il_19, il_20, il_24, il_30, il_31, il_44, il_48, il_49, il_52, il_57, il_59, il_60, il_70, il_99, il_100, il_103, il_108, il_114, il_m1, il_m2, il_m3, il_m4, il_m9, il_m10, il_m100] at *) <;> omega))
      refine x_aload_n (pc := 10) (i := 0) dX0_paysOrGoes_10 rfl rfl ?_
      refine x_getR (pc := 11) hS fX0_33 dX0_paysOrGoes_11 rfl rfl ?_
      refine x_iload_n (pc := 14) (i := 1) dX0_paysOrGoes_14 rfl rfl ?_
      refine x_aldN (pc := 15) hS dX0_paysOrGoes_15 rfl (by omega) (by decide) ?_
      refine x_istore_n (pc := 16) (i := 2) (L' := [_, _, _, _, _]) dX0_paysOrGoes_16 rfl (by decide) rfl ?_
      refine x_aload_n (pc := 17) (i := 0) dX0_paysOrGoes_17 rfl rfl ?_
      refine x_iload_n (pc := 18) (i := 2) dX0_paysOrGoes_18 rfl rfl ?_
      refine x_vs (pc := 19) (As := [_]) rfl hS lX0_49 dX0_paysOrGoes_19 rfl rfl (Nat.le_of_ble_eq_true rfl) (c_X0_hasBarrow_7 hS) ?_
      rintro _ _ ⟨rfl, hq⟩
      obtain rfl := hq.symm
      refine x_pushI ?_
      refine x_istore_n (pc := 22) (i := 3) (L' := [_, _, _, _, _]) dX0_paysOrGoes_22 rfl (by decide) rfl ?_
      refine x_iload_n (pc := 23) (i := 3) dX0_paysOrGoes_23 rfl rfl ?_
      refine x_if_eq (pc := 24) (tgt := 46) dX0_paysOrGoes_24 (by decide) (fun h24 => ?_) (fun h24 => ?_)
      · refine x_iconst (pc := 46) (v := 0) dX0_paysOrGoes_46 (by decide) ?_
        refine x_istore (pc := 47) (L' := [_, _, _, _, _]) dX0_paysOrGoes_47 (by decide) rfl ?_
        refine x_iload (pc := 49) dX0_paysOrGoes_49 rfl ?_
        refine x_if_eq (pc := 51) (tgt := 72) dX0_paysOrGoes_51 (by decide) (fun _ => ?_) (fun h51 => absurd h51 (by decide))
        refine x_aload_n (pc := 72) (i := 0) dX0_paysOrGoes_72 rfl rfl ?_
        refine x_getR (pc := 73) hS fX0_33 dX0_paysOrGoes_73 rfl rfl ?_
        refine x_iload_n (pc := 76) (i := 1) dX0_paysOrGoes_76 rfl rfl ?_
        refine x_bipush (pc := 77) (v := (-9)) dX0_paysOrGoes_77 (by decide) ?_
        refine x_astN (pc := 79) hS dX0_paysOrGoes_79 rfl (by omega) (by decide) (fun hS => ?_)
        refine x_aload_n (pc := 80) (i := 0) dX0_paysOrGoes_80 rfl rfl ?_
        refine x_getR (pc := 81) hS fX0_36 dX0_paysOrGoes_81 rfl rfl ?_
        refine x_iload_n (pc := 84) (i := 1) dX0_paysOrGoes_84 rfl rfl ?_
        refine x_dup2 (pc := 85) dX0_paysOrGoes_85 rfl rfl ?_
        refine x_aldN (pc := 86) hS dX0_paysOrGoes_86 rfl (by omega) (by decide) ?_
        refine x_iconst (pc := 87) (v := 1) dX0_paysOrGoes_87 (by decide) ?_
        refine x_iadd (pc := 88) dX0_paysOrGoes_88 ?_
        refine x_astN (pc := 89) hS dX0_paysOrGoes_89 rfl (by omega) (by decide) (fun hS => ?_)
        refine x_iload (pc := 90) dX0_paysOrGoes_90 rfl ?_
        refine x_if_ne (pc := 92) (tgt := 99) dX0_paysOrGoes_92 (by decide) (fun h92 => absurd h92 (by decide)) (fun _ => ?_)
        refine x_iload_n (pc := 95) (i := 3) dX0_paysOrGoes_95 rfl rfl ?_
        refine x_if_ne (pc := 96) (tgt := 103) dX0_paysOrGoes_96 (by decide) (fun h96 => ?_) (fun h96 => ?_)
        · refine x_iconst (pc := 103) (v := 0) dX0_paysOrGoes_103 (by decide) ?_
          refine x_ri (pc := 104) dX0_paysOrGoes_104 rfl rfl ?_
          first | (exfalso; (try simp only [paysP, inB] at *) <;> (try simp only [b2_e0, b2_n0, Decidable.not_not] at *) <;> (try simp only [i_lt, i_le, i_eq, not_and, not_or, ne_eq, il_0, il_1, il_2, il_3, il_4, il_5, il_6, il_7, il_8, il_9, il_10, il_14, il_15, il_19, il_20, il_24, il_30, il_31, il_44, il_48, il_49, il_52, il_57, il_59, il_60, il_70, il_99, il_100, il_103, il_108, il_114, il_m1, il_m2, il_m3, il_m4, il_m9, il_m10, il_m100] at *) <;> omega; done) | exact ⟨rfl, rfl⟩ | exact ⟨rfl, by rw [arr_setA_a (by decide)]⟩
        · refine x_iconst (pc := 99) (v := 1) dX0_paysOrGoes_99 (by decide) ?_
          refine x_goto (pc := 100) (tgt := 104) dX0_paysOrGoes_100 (by decide) ?_
          refine x_ri (pc := 104) dX0_paysOrGoes_104 rfl rfl ?_
          first | (exfalso; (try simp only [paysP, inB] at *) <;> (try simp only [b2_e0, b2_n0, Decidable.not_not] at *) <;> (try simp only [i_lt, i_le, i_eq, not_and, not_or, ne_eq, il_0, il_1, il_2, il_3, il_4, il_5, il_6, il_7, il_8, il_9, il_10, il_14, il_15, il_19, il_20, il_24, il_30, il_31, il_44, il_48, il_49, il_52, il_57, il_59, il_60, il_70, il_99, il_100, il_103, il_108, il_114, il_m1, il_m2, il_m3, il_m4, il_m9, il_m10, il_m100] at *) <;> omega; done) | exact ⟨rfl, rfl⟩ | exact ⟨rfl, by rw [arr_setA_a (by decide)]⟩
      · refine x_aload_n (pc := 27) (i := 0) dX0_paysOrGoes_27 rfl rfl ?_
        refine x_getR (pc := 28) hS fX0_24 dX0_paysOrGoes_28 rfl rfl ?_
        refine x_iload_n (pc := 31) (i := 1) dX0_paysOrGoes_31 rfl rfl ?_
        refine x_aldN (pc := 32) hS dX0_paysOrGoes_32 rfl (by omega) (by decide) ?_
        refine x_aload_n (pc := 33) (i := 0) dX0_paysOrGoes_33 rfl rfl ?_
        refine x_getR (pc := 34) hS fX0_18 dX0_paysOrGoes_34 rfl rfl ?_
        refine x_iload_n (pc := 37) (i := 2) dX0_paysOrGoes_37 rfl rfl ?_
        refine x_ald (pc := 38) hS dX0_paysOrGoes_38 rfl (by rw [vp_in_iff]; (try simp only [b2_e0, b2_n0, Decidable.not_not] at *) <;> (try simp only [i_lt, i_le, i_eq, not_and, not_or, ne_eq, il_0, il_1, il_2, il_3, il_4, il_5, il_6, il_7, il_8, il_9, il_10, il_14, il_15, il_19, il_20, il_24, il_30, il_31, il_44, il_48, il_49, il_52, il_57, il_59, il_60, il_70, il_99, il_100, il_103, il_108, il_114, il_m1, il_m2, il_m3, il_m4, il_m9, il_m10, il_m100] at *) <;> omega) ?_
        refine x_icmp_lt (pc := 39) (tgt := 46) dX0_paysOrGoes_39 (by decide) (fun h39 => ?_) (fun h39 => ?_)
        · refine x_iconst (pc := 46) (v := 0) dX0_paysOrGoes_46 (by decide) ?_
          refine x_istore (pc := 47) (L' := [_, _, _, _, _]) dX0_paysOrGoes_47 (by decide) rfl ?_
          refine x_iload (pc := 49) dX0_paysOrGoes_49 rfl ?_
          refine x_if_eq (pc := 51) (tgt := 72) dX0_paysOrGoes_51 (by decide) (fun _ => ?_) (fun h51 => absurd h51 (by decide))
          refine x_aload_n (pc := 72) (i := 0) dX0_paysOrGoes_72 rfl rfl ?_
          refine x_getR (pc := 73) hS fX0_33 dX0_paysOrGoes_73 rfl rfl ?_
          refine x_iload_n (pc := 76) (i := 1) dX0_paysOrGoes_76 rfl rfl ?_
          refine x_bipush (pc := 77) (v := (-9)) dX0_paysOrGoes_77 (by decide) ?_
          refine x_astN (pc := 79) hS dX0_paysOrGoes_79 rfl (by omega) (by decide) (fun hS => ?_)
          refine x_aload_n (pc := 80) (i := 0) dX0_paysOrGoes_80 rfl rfl ?_
          refine x_getR (pc := 81) hS fX0_36 dX0_paysOrGoes_81 rfl rfl ?_
          refine x_iload_n (pc := 84) (i := 1) dX0_paysOrGoes_84 rfl rfl ?_
          refine x_dup2 (pc := 85) dX0_paysOrGoes_85 rfl rfl ?_
          refine x_aldN (pc := 86) hS dX0_paysOrGoes_86 rfl (by omega) (by decide) ?_
          refine x_iconst (pc := 87) (v := 1) dX0_paysOrGoes_87 (by decide) ?_
          refine x_iadd (pc := 88) dX0_paysOrGoes_88 ?_
          refine x_astN (pc := 89) hS dX0_paysOrGoes_89 rfl (by omega) (by decide) (fun hS => ?_)
          refine x_iload (pc := 90) dX0_paysOrGoes_90 rfl ?_
          refine x_if_ne (pc := 92) (tgt := 99) dX0_paysOrGoes_92 (by decide) (fun h92 => absurd h92 (by decide)) (fun _ => ?_)
          refine x_iload_n (pc := 95) (i := 3) dX0_paysOrGoes_95 rfl rfl ?_
          refine x_if_ne (pc := 96) (tgt := 103) dX0_paysOrGoes_96 (by decide) (fun h96 => ?_) (fun h96 => ?_)
          · refine x_iconst (pc := 103) (v := 0) dX0_paysOrGoes_103 (by decide) ?_
            refine x_ri (pc := 104) dX0_paysOrGoes_104 rfl rfl ?_
            first | (exfalso; (try simp only [paysP, inB] at *) <;> (try simp only [b2_e0, b2_n0, Decidable.not_not] at *) <;> (try simp only [i_lt, i_le, i_eq, not_and, not_or, ne_eq, il_0, il_1, il_2, il_3, il_4, il_5, il_6, il_7, il_8, il_9, il_10, il_14, il_15, il_19, il_20, il_24, il_30, il_31, il_44, il_48, il_49, il_52, il_57, il_59, il_60, il_70, il_99, il_100, il_103, il_108, il_114, il_m1, il_m2, il_m3, il_m4, il_m9, il_m10, il_m100] at *) <;> omega; done) | exact ⟨rfl, rfl⟩ | exact ⟨rfl, by rw [arr_setA_a (by decide)]⟩
          · refine x_iconst (pc := 99) (v := 1) dX0_paysOrGoes_99 (by decide) ?_
            refine x_goto (pc := 100) (tgt := 104) dX0_paysOrGoes_100 (by decide) ?_
            refine x_ri (pc := 104) dX0_paysOrGoes_104 rfl rfl ?_
            first | (exfalso; (try simp only [paysP, inB] at *) <;> (try simp only [b2_e0, b2_n0, Decidable.not_not] at *) <;> (try simp only [i_lt, i_le, i_eq, not_and, not_or, ne_eq, il_0, il_1, il_2, il_3, il_4, il_5, il_6, il_7, il_8, il_9, il_10, il_14, il_15, il_19, il_20, il_24, il_30, il_31, il_44, il_48, il_49, il_52, il_57, il_59, il_60, il_70, il_99, il_100, il_103, il_108, il_114, il_m1, il_m2, il_m3, il_m4, il_m9, il_m10, il_m100] at *) <;> omega; done) | exact ⟨rfl, rfl⟩ | exact ⟨rfl, by rw [arr_setA_a (by decide)]⟩
        · refine x_iconst (pc := 42) (v := 1) dX0_paysOrGoes_42 (by decide) ?_
          refine x_goto (pc := 43) (tgt := 47) dX0_paysOrGoes_43 (by decide) ?_
          refine x_istore (pc := 47) (L' := [_, _, _, _, _]) dX0_paysOrGoes_47 (by decide) rfl ?_
          refine x_iload (pc := 49) dX0_paysOrGoes_49 rfl ?_
          refine x_if_eq (pc := 51) (tgt := 72) dX0_paysOrGoes_51 (by decide) (fun h51 => absurd h51 (by decide)) (fun _ => ?_)
          refine x_aload_n (pc := 54) (i := 0) dX0_paysOrGoes_54 rfl rfl ?_
          refine x_getR (pc := 55) hS fX0_24 dX0_paysOrGoes_55 rfl rfl ?_
          refine x_iload_n (pc := 58) (i := 1) dX0_paysOrGoes_58 rfl rfl ?_
          refine x_dup2 (pc := 59) dX0_paysOrGoes_59 rfl rfl ?_
          refine x_aldN (pc := 60) hS dX0_paysOrGoes_60 rfl (by omega) (by decide) ?_
          refine x_aload_n (pc := 61) (i := 0) dX0_paysOrGoes_61 rfl rfl ?_
          refine x_getR (pc := 62) hS fX0_18 dX0_paysOrGoes_62 rfl rfl ?_
          refine x_iload_n (pc := 65) (i := 2) dX0_paysOrGoes_65 rfl rfl ?_
          refine x_ald (pc := 66) hS dX0_paysOrGoes_66 rfl (by rw [vp_in_iff]; (try simp only [b2_e0, b2_n0, Decidable.not_not] at *) <;> (try simp only [i_lt, i_le, i_eq, not_and, not_or, ne_eq, il_0, il_1, il_2, il_3, il_4, il_5, il_6, il_7, il_8, il_9, il_10, il_14, il_15, il_19, il_20, il_24, il_30, il_31, il_44, il_48, il_49, il_52, il_57, il_59, il_60, il_70, il_99, il_100, il_103, il_108, il_114, il_m1, il_m2, il_m3, il_m4, il_m9, il_m10, il_m100] at *) <;> omega) ?_
          refine x_isub (pc := 67) dX0_paysOrGoes_67 ?_
          refine x_astN (pc := 68) hS dX0_paysOrGoes_68 rfl (by omega) (by decide) (fun hS => ?_)
          refine x_goto (pc := 69) (tgt := 90) dX0_paysOrGoes_69 (by decide) ?_
          refine x_iload (pc := 90) dX0_paysOrGoes_90 rfl ?_
          refine x_if_ne (pc := 92) (tgt := 99) dX0_paysOrGoes_92 (by decide) (fun _ => ?_) (fun h92 => absurd h92 (by decide))
          refine x_iconst (pc := 99) (v := 1) dX0_paysOrGoes_99 (by decide) ?_
          refine x_goto (pc := 100) (tgt := 104) dX0_paysOrGoes_100 (by decide) ?_
          refine x_ri (pc := 104) dX0_paysOrGoes_104 rfl rfl ?_
          first | (exfalso; (try simp only [paysP, inB] at *) <;> (try simp only [b2_e0, b2_n0, Decidable.not_not] at *) <;> (try simp only [i_lt, i_le, i_eq, not_and, not_or, ne_eq, il_0, il_1, il_2, il_3, il_4, il_5, il_6, il_7, il_8, il_9, il_10, il_14, il_15, il_19, il_20, il_24, il_30, il_31, il_44, il_48, il_49, il_52, il_57, il_59, il_60, il_70, il_99, il_100, il_103, il_108, il_114, il_m1, il_m2, il_m3, il_m4, il_m9, il_m10, il_m100] at *) <;> omega; done) | exact ⟨rfl, rfl⟩ | exact ⟨rfl, by rw [arr_setA_a (by decide)]⟩
theorem c_X0_paysOrGoes_18 {d : Nat} {w : mW} {nb nw j : Nat} (hS : Shape w) (tb : (fld w 18 0).toInt = (nb : Int)) (hnb : nb ≤ 5) (tw : (fld w 18 1).toInt = (nw : Int)) (hnw : nw ≤ 5) (hj : j < nw) : mC (d + 1) kX0_paysOrGoes [.ref 18, .int (nI j)] w (fun r w' => r = some (.int (b2 (paysP (fld w 18 0) (arr w 21) (arr w 23) (arr w 26) j ∨ ¬ inB (fld w 18 0) (arr w 26) j))) ∧ w' = if paysP (fld w 18 0) (arr w 21) (arr w 23) (arr w 26) j then setA w 23 (upd (arr w 23) j (arr w 23 j - arr w 21 (arr w 26 j).toNatClampNeg)) else setA (setA w 26 (upd (arr w 26) j (-9))) 27 (upd (arr w 27) j (arr w 27 j + 1))) := by
  have tk : (nI j).toInt = (j : Int) := nI_toInt (by omega)
  by_cases hp : paysP (fld w 18 0) (arr w 21) (arr w 23) (arr w 26) j
  · simp only [if_pos hp, b2_t (Or.inl hp : paysP (fld w 18 0) (arr w 21) (arr w 23) (arr w 26) j ∨ ¬ inB (fld w 18 0) (arr w 26) j)]
    refine mC.of (L := [_, _, _, _, _]) okX0_paysOrGoes 3 rfl rfl ?_
    refine x_aload_n (pc := 0) (i := 0) dX0_paysOrGoes_0 rfl rfl ?_
    refine x_iload_n (pc := 1) (i := 1) dX0_paysOrGoes_1 rfl rfl ?_
    refine x_vs (pc := 2) (As := [_]) rfl hS lX0_57 dX0_paysOrGoes_2 rfl rfl (Nat.le_of_ble_eq_true rfl) (c_X0_hasWalker_18 hS) ?_
    rintro _ _ ⟨rfl, hq⟩
    obtain rfl := hq.symm
    refine x_pushI ?_
    refine x_if_ne (pc := 5) (tgt := 10) dX0_paysOrGoes_5 (by decide) (fun h5 => ?_) (fun h5 => absurd h5 (by rw [b2_n0]; (try simp only [b2_e0, b2_n0, Decidable.not_not] at *) <;> (try simp only [i_lt, i_le, i_eq, not_and, not_or, ne_eq, il_0, il_1, il_2, il_3, il_4, il_5, il_6, il_7, il_8, il_9, il_10, il_14, il_15, il_19, il_20, il_24, il_30, il_31, il_44, il_48, il_49, il_52, il_57, il_59, il_60, il_70, il_99, il_100, il_103, il_108, il_114, il_m1, il_m2, il_m3, il_m4, il_m9, il_m10, il_m100] at *) <;> omega))
    refine x_aload_n (pc := 10) (i := 0) dX0_paysOrGoes_10 rfl rfl ?_
    refine x_getR (pc := 11) hS fX0_33 dX0_paysOrGoes_11 rfl rfl ?_
    refine x_iload_n (pc := 14) (i := 1) dX0_paysOrGoes_14 rfl rfl ?_
    refine x_aldN (pc := 15) hS dX0_paysOrGoes_15 rfl (by omega) (by decide) ?_
    refine x_istore_n (pc := 16) (i := 2) (L' := [_, _, _, _, _]) dX0_paysOrGoes_16 rfl (by decide) rfl ?_
    refine x_aload_n (pc := 17) (i := 0) dX0_paysOrGoes_17 rfl rfl ?_
    refine x_iload_n (pc := 18) (i := 2) dX0_paysOrGoes_18 rfl rfl ?_
    refine x_vs (pc := 19) (As := [_]) rfl hS lX0_49 dX0_paysOrGoes_19 rfl rfl (Nat.le_of_ble_eq_true rfl) (c_X0_hasBarrow_18 hS) ?_
    rintro _ _ ⟨rfl, hq⟩
    obtain rfl := hq.symm
    refine x_pushI ?_
    refine x_istore_n (pc := 22) (i := 3) (L' := [_, _, _, _, _]) dX0_paysOrGoes_22 rfl (by decide) rfl ?_
    refine x_iload_n (pc := 23) (i := 3) dX0_paysOrGoes_23 rfl rfl ?_
    refine x_if_eq (pc := 24) (tgt := 46) dX0_paysOrGoes_24 (by decide) (fun h24 => ?_) (fun h24 => ?_)
    · refine x_iconst (pc := 46) (v := 0) dX0_paysOrGoes_46 (by decide) ?_
      refine x_istore (pc := 47) (L' := [_, _, _, _, _]) dX0_paysOrGoes_47 (by decide) rfl ?_
      refine x_iload (pc := 49) dX0_paysOrGoes_49 rfl ?_
      refine x_if_eq (pc := 51) (tgt := 72) dX0_paysOrGoes_51 (by decide) (fun _ => ?_) (fun h51 => absurd h51 (by decide))
      refine x_aload_n (pc := 72) (i := 0) dX0_paysOrGoes_72 rfl rfl ?_
      refine x_getR (pc := 73) hS fX0_33 dX0_paysOrGoes_73 rfl rfl ?_
      refine x_iload_n (pc := 76) (i := 1) dX0_paysOrGoes_76 rfl rfl ?_
      refine x_bipush (pc := 77) (v := (-9)) dX0_paysOrGoes_77 (by decide) ?_
      refine x_astN (pc := 79) hS dX0_paysOrGoes_79 rfl (by omega) (by decide) (fun hS => ?_)
      refine x_aload_n (pc := 80) (i := 0) dX0_paysOrGoes_80 rfl rfl ?_
      refine x_getR (pc := 81) hS fX0_36 dX0_paysOrGoes_81 rfl rfl ?_
      refine x_iload_n (pc := 84) (i := 1) dX0_paysOrGoes_84 rfl rfl ?_
      refine x_dup2 (pc := 85) dX0_paysOrGoes_85 rfl rfl ?_
      refine x_aldN (pc := 86) hS dX0_paysOrGoes_86 rfl (by omega) (by decide) ?_
      refine x_iconst (pc := 87) (v := 1) dX0_paysOrGoes_87 (by decide) ?_
      refine x_iadd (pc := 88) dX0_paysOrGoes_88 ?_
      refine x_astN (pc := 89) hS dX0_paysOrGoes_89 rfl (by omega) (by decide) (fun hS => ?_)
      refine x_iload (pc := 90) dX0_paysOrGoes_90 rfl ?_
      refine x_if_ne (pc := 92) (tgt := 99) dX0_paysOrGoes_92 (by decide) (fun h92 => absurd h92 (by decide)) (fun _ => ?_)
      refine x_iload_n (pc := 95) (i := 3) dX0_paysOrGoes_95 rfl rfl ?_
      refine x_if_ne (pc := 96) (tgt := 103) dX0_paysOrGoes_96 (by decide) (fun h96 => ?_) (fun h96 => ?_)
      · refine x_iconst (pc := 103) (v := 0) dX0_paysOrGoes_103 (by decide) ?_
        refine x_ri (pc := 104) dX0_paysOrGoes_104 rfl rfl ?_
        first | (exfalso; (try simp only [paysP, inB] at *) <;> (try simp only [b2_e0, b2_n0, Decidable.not_not] at *) <;> (try simp only [i_lt, i_le, i_eq, not_and, not_or, ne_eq, il_0, il_1, il_2, il_3, il_4, il_5, il_6, il_7, il_8, il_9, il_10, il_14, il_15, il_19, il_20, il_24, il_30, il_31, il_44, il_48, il_49, il_52, il_57, il_59, il_60, il_70, il_99, il_100, il_103, il_108, il_114, il_m1, il_m2, il_m3, il_m4, il_m9, il_m10, il_m100] at *) <;> omega; done) | exact ⟨rfl, rfl⟩ | exact ⟨rfl, by rw [arr_setA_a (by decide)]⟩
      · refine x_iconst (pc := 99) (v := 1) dX0_paysOrGoes_99 (by decide) ?_
        refine x_goto (pc := 100) (tgt := 104) dX0_paysOrGoes_100 (by decide) ?_
        refine x_ri (pc := 104) dX0_paysOrGoes_104 rfl rfl ?_
        first | (exfalso; (try simp only [paysP, inB] at *) <;> (try simp only [b2_e0, b2_n0, Decidable.not_not] at *) <;> (try simp only [i_lt, i_le, i_eq, not_and, not_or, ne_eq, il_0, il_1, il_2, il_3, il_4, il_5, il_6, il_7, il_8, il_9, il_10, il_14, il_15, il_19, il_20, il_24, il_30, il_31, il_44, il_48, il_49, il_52, il_57, il_59, il_60, il_70, il_99, il_100, il_103, il_108, il_114, il_m1, il_m2, il_m3, il_m4, il_m9, il_m10, il_m100] at *) <;> omega; done) | exact ⟨rfl, rfl⟩ | exact ⟨rfl, by rw [arr_setA_a (by decide)]⟩
    · refine x_aload_n (pc := 27) (i := 0) dX0_paysOrGoes_27 rfl rfl ?_
      refine x_getR (pc := 28) hS fX0_24 dX0_paysOrGoes_28 rfl rfl ?_
      refine x_iload_n (pc := 31) (i := 1) dX0_paysOrGoes_31 rfl rfl ?_
      refine x_aldN (pc := 32) hS dX0_paysOrGoes_32 rfl (by omega) (by decide) ?_
      refine x_aload_n (pc := 33) (i := 0) dX0_paysOrGoes_33 rfl rfl ?_
      refine x_getR (pc := 34) hS fX0_18 dX0_paysOrGoes_34 rfl rfl ?_
      refine x_iload_n (pc := 37) (i := 2) dX0_paysOrGoes_37 rfl rfl ?_
      refine x_ald (pc := 38) hS dX0_paysOrGoes_38 rfl (by rw [vp_in_iff]; (try simp only [b2_e0, b2_n0, Decidable.not_not] at *) <;> (try simp only [i_lt, i_le, i_eq, not_and, not_or, ne_eq, il_0, il_1, il_2, il_3, il_4, il_5, il_6, il_7, il_8, il_9, il_10, il_14, il_15, il_19, il_20, il_24, il_30, il_31, il_44, il_48, il_49, il_52, il_57, il_59, il_60, il_70, il_99, il_100, il_103, il_108, il_114, il_m1, il_m2, il_m3, il_m4, il_m9, il_m10, il_m100] at *) <;> omega) ?_
      refine x_icmp_lt (pc := 39) (tgt := 46) dX0_paysOrGoes_39 (by decide) (fun h39 => ?_) (fun h39 => ?_)
      · refine x_iconst (pc := 46) (v := 0) dX0_paysOrGoes_46 (by decide) ?_
        refine x_istore (pc := 47) (L' := [_, _, _, _, _]) dX0_paysOrGoes_47 (by decide) rfl ?_
        refine x_iload (pc := 49) dX0_paysOrGoes_49 rfl ?_
        refine x_if_eq (pc := 51) (tgt := 72) dX0_paysOrGoes_51 (by decide) (fun _ => ?_) (fun h51 => absurd h51 (by decide))
        refine x_aload_n (pc := 72) (i := 0) dX0_paysOrGoes_72 rfl rfl ?_
        refine x_getR (pc := 73) hS fX0_33 dX0_paysOrGoes_73 rfl rfl ?_
        refine x_iload_n (pc := 76) (i := 1) dX0_paysOrGoes_76 rfl rfl ?_
        refine x_bipush (pc := 77) (v := (-9)) dX0_paysOrGoes_77 (by decide) ?_
        refine x_astN (pc := 79) hS dX0_paysOrGoes_79 rfl (by omega) (by decide) (fun hS => ?_)
        refine x_aload_n (pc := 80) (i := 0) dX0_paysOrGoes_80 rfl rfl ?_
        refine x_getR (pc := 81) hS fX0_36 dX0_paysOrGoes_81 rfl rfl ?_
        refine x_iload_n (pc := 84) (i := 1) dX0_paysOrGoes_84 rfl rfl ?_
        refine x_dup2 (pc := 85) dX0_paysOrGoes_85 rfl rfl ?_
        refine x_aldN (pc := 86) hS dX0_paysOrGoes_86 rfl (by omega) (by decide) ?_
        refine x_iconst (pc := 87) (v := 1) dX0_paysOrGoes_87 (by decide) ?_
        refine x_iadd (pc := 88) dX0_paysOrGoes_88 ?_
        refine x_astN (pc := 89) hS dX0_paysOrGoes_89 rfl (by omega) (by decide) (fun hS => ?_)
        refine x_iload (pc := 90) dX0_paysOrGoes_90 rfl ?_
        refine x_if_ne (pc := 92) (tgt := 99) dX0_paysOrGoes_92 (by decide) (fun h92 => absurd h92 (by decide)) (fun _ => ?_)
        refine x_iload_n (pc := 95) (i := 3) dX0_paysOrGoes_95 rfl rfl ?_
        refine x_if_ne (pc := 96) (tgt := 103) dX0_paysOrGoes_96 (by decide) (fun h96 => ?_) (fun h96 => ?_)
        · refine x_iconst (pc := 103) (v := 0) dX0_paysOrGoes_103 (by decide) ?_
          refine x_ri (pc := 104) dX0_paysOrGoes_104 rfl rfl ?_
          first | (exfalso; (try simp only [paysP, inB] at *) <;> (try simp only [b2_e0, b2_n0, Decidable.not_not] at *) <;> (try simp only [i_lt, i_le, i_eq, not_and, not_or, ne_eq, il_0, il_1, il_2, il_3, il_4, il_5, il_6, il_7, il_8, il_9, il_10, il_14, il_15, il_19, il_20, il_24, il_30, il_31, il_44, il_48, il_49, il_52, il_57, il_59, il_60, il_70, il_99, il_100, il_103, il_108, il_114, il_m1, il_m2, il_m3, il_m4, il_m9, il_m10, il_m100] at *) <;> omega; done) | exact ⟨rfl, rfl⟩ | exact ⟨rfl, by rw [arr_setA_a (by decide)]⟩
        · refine x_iconst (pc := 99) (v := 1) dX0_paysOrGoes_99 (by decide) ?_
          refine x_goto (pc := 100) (tgt := 104) dX0_paysOrGoes_100 (by decide) ?_
          refine x_ri (pc := 104) dX0_paysOrGoes_104 rfl rfl ?_
          first | (exfalso; (try simp only [paysP, inB] at *) <;> (try simp only [b2_e0, b2_n0, Decidable.not_not] at *) <;> (try simp only [i_lt, i_le, i_eq, not_and, not_or, ne_eq, il_0, il_1, il_2, il_3, il_4, il_5, il_6, il_7, il_8, il_9, il_10, il_14, il_15, il_19, il_20, il_24, il_30, il_31, il_44, il_48, il_49, il_52, il_57, il_59, il_60, il_70, il_99, il_100, il_103, il_108, il_114, il_m1, il_m2, il_m3, il_m4, il_m9, il_m10, il_m100] at *) <;> omega; done) | exact ⟨rfl, rfl⟩ | exact ⟨rfl, by rw [arr_setA_a (by decide)]⟩
      · refine x_iconst (pc := 42) (v := 1) dX0_paysOrGoes_42 (by decide) ?_
        refine x_goto (pc := 43) (tgt := 47) dX0_paysOrGoes_43 (by decide) ?_
        refine x_istore (pc := 47) (L' := [_, _, _, _, _]) dX0_paysOrGoes_47 (by decide) rfl ?_
        refine x_iload (pc := 49) dX0_paysOrGoes_49 rfl ?_
        refine x_if_eq (pc := 51) (tgt := 72) dX0_paysOrGoes_51 (by decide) (fun h51 => absurd h51 (by decide)) (fun _ => ?_)
        refine x_aload_n (pc := 54) (i := 0) dX0_paysOrGoes_54 rfl rfl ?_
        refine x_getR (pc := 55) hS fX0_24 dX0_paysOrGoes_55 rfl rfl ?_
        refine x_iload_n (pc := 58) (i := 1) dX0_paysOrGoes_58 rfl rfl ?_
        refine x_dup2 (pc := 59) dX0_paysOrGoes_59 rfl rfl ?_
        refine x_aldN (pc := 60) hS dX0_paysOrGoes_60 rfl (by omega) (by decide) ?_
        refine x_aload_n (pc := 61) (i := 0) dX0_paysOrGoes_61 rfl rfl ?_
        refine x_getR (pc := 62) hS fX0_18 dX0_paysOrGoes_62 rfl rfl ?_
        refine x_iload_n (pc := 65) (i := 2) dX0_paysOrGoes_65 rfl rfl ?_
        refine x_ald (pc := 66) hS dX0_paysOrGoes_66 rfl (by rw [vp_in_iff]; (try simp only [b2_e0, b2_n0, Decidable.not_not] at *) <;> (try simp only [i_lt, i_le, i_eq, not_and, not_or, ne_eq, il_0, il_1, il_2, il_3, il_4, il_5, il_6, il_7, il_8, il_9, il_10, il_14, il_15, il_19, il_20, il_24, il_30, il_31, il_44, il_48, il_49, il_52, il_57, il_59, il_60, il_70, il_99, il_100, il_103, il_108, il_114, il_m1, il_m2, il_m3, il_m4, il_m9, il_m10, il_m100] at *) <;> omega) ?_
        refine x_isub (pc := 67) dX0_paysOrGoes_67 ?_
        refine x_astN (pc := 68) hS dX0_paysOrGoes_68 rfl (by omega) (by decide) (fun hS => ?_)
        refine x_goto (pc := 69) (tgt := 90) dX0_paysOrGoes_69 (by decide) ?_
        refine x_iload (pc := 90) dX0_paysOrGoes_90 rfl ?_
        refine x_if_ne (pc := 92) (tgt := 99) dX0_paysOrGoes_92 (by decide) (fun _ => ?_) (fun h92 => absurd h92 (by decide))
        refine x_iconst (pc := 99) (v := 1) dX0_paysOrGoes_99 (by decide) ?_
        refine x_goto (pc := 100) (tgt := 104) dX0_paysOrGoes_100 (by decide) ?_
        refine x_ri (pc := 104) dX0_paysOrGoes_104 rfl rfl ?_
        first | (exfalso; (try simp only [paysP, inB] at *) <;> (try simp only [b2_e0, b2_n0, Decidable.not_not] at *) <;> (try simp only [i_lt, i_le, i_eq, not_and, not_or, ne_eq, il_0, il_1, il_2, il_3, il_4, il_5, il_6, il_7, il_8, il_9, il_10, il_14, il_15, il_19, il_20, il_24, il_30, il_31, il_44, il_48, il_49, il_52, il_57, il_59, il_60, il_70, il_99, il_100, il_103, il_108, il_114, il_m1, il_m2, il_m3, il_m4, il_m9, il_m10, il_m100] at *) <;> omega; done) | exact ⟨rfl, rfl⟩ | exact ⟨rfl, by rw [arr_setA_a (by decide)]⟩
  · by_cases hi : inB (fld w 18 0) (arr w 26) j
    · simp only [if_neg hp, b2_f (fun q => q.elim hp (fun z => z hi) : ¬ (paysP (fld w 18 0) (arr w 21) (arr w 23) (arr w 26) j ∨ ¬ inB (fld w 18 0) (arr w 26) j))]
      refine mC.of (L := [_, _, _, _, _]) okX0_paysOrGoes 3 rfl rfl ?_
      refine x_aload_n (pc := 0) (i := 0) dX0_paysOrGoes_0 rfl rfl ?_
      refine x_iload_n (pc := 1) (i := 1) dX0_paysOrGoes_1 rfl rfl ?_
      refine x_vs (pc := 2) (As := [_]) rfl hS lX0_57 dX0_paysOrGoes_2 rfl rfl (Nat.le_of_ble_eq_true rfl) (c_X0_hasWalker_18 hS) ?_
      rintro _ _ ⟨rfl, hq⟩
      obtain rfl := hq.symm
      refine x_pushI ?_
      refine x_if_ne (pc := 5) (tgt := 10) dX0_paysOrGoes_5 (by decide) (fun h5 => ?_) (fun h5 => absurd h5 (by rw [b2_n0]; (try simp only [b2_e0, b2_n0, Decidable.not_not] at *) <;> (try simp only [i_lt, i_le, i_eq, not_and, not_or, ne_eq, il_0, il_1, il_2, il_3, il_4, il_5, il_6, il_7, il_8, il_9, il_10, il_14, il_15, il_19, il_20, il_24, il_30, il_31, il_44, il_48, il_49, il_52, il_57, il_59, il_60, il_70, il_99, il_100, il_103, il_108, il_114, il_m1, il_m2, il_m3, il_m4, il_m9, il_m10, il_m100] at *) <;> omega))
      refine x_aload_n (pc := 10) (i := 0) dX0_paysOrGoes_10 rfl rfl ?_
      refine x_getR (pc := 11) hS fX0_33 dX0_paysOrGoes_11 rfl rfl ?_
      refine x_iload_n (pc := 14) (i := 1) dX0_paysOrGoes_14 rfl rfl ?_
      refine x_aldN (pc := 15) hS dX0_paysOrGoes_15 rfl (by omega) (by decide) ?_
      refine x_istore_n (pc := 16) (i := 2) (L' := [_, _, _, _, _]) dX0_paysOrGoes_16 rfl (by decide) rfl ?_
      refine x_aload_n (pc := 17) (i := 0) dX0_paysOrGoes_17 rfl rfl ?_
      refine x_iload_n (pc := 18) (i := 2) dX0_paysOrGoes_18 rfl rfl ?_
      refine x_vs (pc := 19) (As := [_]) rfl hS lX0_49 dX0_paysOrGoes_19 rfl rfl (Nat.le_of_ble_eq_true rfl) (c_X0_hasBarrow_18 hS) ?_
      rintro _ _ ⟨rfl, hq⟩
      obtain rfl := hq.symm
      refine x_pushI ?_
      refine x_istore_n (pc := 22) (i := 3) (L' := [_, _, _, _, _]) dX0_paysOrGoes_22 rfl (by decide) rfl ?_
      refine x_iload_n (pc := 23) (i := 3) dX0_paysOrGoes_23 rfl rfl ?_
      refine x_if_eq (pc := 24) (tgt := 46) dX0_paysOrGoes_24 (by decide) (fun h24 => ?_) (fun h24 => ?_)
      · refine x_iconst (pc := 46) (v := 0) dX0_paysOrGoes_46 (by decide) ?_
        refine x_istore (pc := 47) (L' := [_, _, _, _, _]) dX0_paysOrGoes_47 (by decide) rfl ?_
        refine x_iload (pc := 49) dX0_paysOrGoes_49 rfl ?_
        refine x_if_eq (pc := 51) (tgt := 72) dX0_paysOrGoes_51 (by decide) (fun _ => ?_) (fun h51 => absurd h51 (by decide))
        refine x_aload_n (pc := 72) (i := 0) dX0_paysOrGoes_72 rfl rfl ?_
        refine x_getR (pc := 73) hS fX0_33 dX0_paysOrGoes_73 rfl rfl ?_
        refine x_iload_n (pc := 76) (i := 1) dX0_paysOrGoes_76 rfl rfl ?_
        refine x_bipush (pc := 77) (v := (-9)) dX0_paysOrGoes_77 (by decide) ?_
        refine x_astN (pc := 79) hS dX0_paysOrGoes_79 rfl (by omega) (by decide) (fun hS => ?_)
        refine x_aload_n (pc := 80) (i := 0) dX0_paysOrGoes_80 rfl rfl ?_
        refine x_getR (pc := 81) hS fX0_36 dX0_paysOrGoes_81 rfl rfl ?_
        refine x_iload_n (pc := 84) (i := 1) dX0_paysOrGoes_84 rfl rfl ?_
        refine x_dup2 (pc := 85) dX0_paysOrGoes_85 rfl rfl ?_
        refine x_aldN (pc := 86) hS dX0_paysOrGoes_86 rfl (by omega) (by decide) ?_
        refine x_iconst (pc := 87) (v := 1) dX0_paysOrGoes_87 (by decide) ?_
        refine x_iadd (pc := 88) dX0_paysOrGoes_88 ?_
        refine x_astN (pc := 89) hS dX0_paysOrGoes_89 rfl (by omega) (by decide) (fun hS => ?_)
        refine x_iload (pc := 90) dX0_paysOrGoes_90 rfl ?_
        refine x_if_ne (pc := 92) (tgt := 99) dX0_paysOrGoes_92 (by decide) (fun h92 => absurd h92 (by decide)) (fun _ => ?_)
        refine x_iload_n (pc := 95) (i := 3) dX0_paysOrGoes_95 rfl rfl ?_
        refine x_if_ne (pc := 96) (tgt := 103) dX0_paysOrGoes_96 (by decide) (fun h96 => ?_) (fun h96 => ?_)
        · refine x_iconst (pc := 103) (v := 0) dX0_paysOrGoes_103 (by decide) ?_
          refine x_ri (pc := 104) dX0_paysOrGoes_104 rfl rfl ?_
          first | (exfalso; (try simp only [paysP, inB] at *) <;> (try simp only [b2_e0, b2_n0, Decidable.not_not] at *) <;> (try simp only [i_lt, i_le, i_eq, not_and, not_or, ne_eq, il_0, il_1, il_2, il_3, il_4, il_5, il_6, il_7, il_8, il_9, il_10, il_14, il_15, il_19, il_20, il_24, il_30, il_31, il_44, il_48, il_49, il_52, il_57, il_59, il_60, il_70, il_99, il_100, il_103, il_108, il_114, il_m1, il_m2, il_m3, il_m4, il_m9, il_m10, il_m100] at *) <;> omega; done) | exact ⟨rfl, rfl⟩ | exact ⟨rfl, by rw [arr_setA_a (by decide)]⟩
        · refine x_iconst (pc := 99) (v := 1) dX0_paysOrGoes_99 (by decide) ?_
          refine x_goto (pc := 100) (tgt := 104) dX0_paysOrGoes_100 (by decide) ?_
          refine x_ri (pc := 104) dX0_paysOrGoes_104 rfl rfl ?_
          first | (exfalso; (try simp only [paysP, inB] at *) <;> (try simp only [b2_e0, b2_n0, Decidable.not_not] at *) <;> (try simp only [i_lt, i_le, i_eq, not_and, not_or, ne_eq, il_0, il_1, il_2, il_3, il_4, il_5, il_6, il_7, il_8, il_9, il_10, il_14, il_15, il_19, il_20, il_24, il_30, il_31, il_44, il_48, il_49, il_52, il_57, il_59, il_60, il_70, il_99, il_100, il_103, il_108, il_114, il_m1, il_m2, il_m3, il_m4, il_m9, il_m10, il_m100] at *) <;> omega; done) | exact ⟨rfl, rfl⟩ | exact ⟨rfl, by rw [arr_setA_a (by decide)]⟩
      · refine x_aload_n (pc := 27) (i := 0) dX0_paysOrGoes_27 rfl rfl ?_
        refine x_getR (pc := 28) hS fX0_24 dX0_paysOrGoes_28 rfl rfl ?_
        refine x_iload_n (pc := 31) (i := 1) dX0_paysOrGoes_31 rfl rfl ?_
        refine x_aldN (pc := 32) hS dX0_paysOrGoes_32 rfl (by omega) (by decide) ?_
        refine x_aload_n (pc := 33) (i := 0) dX0_paysOrGoes_33 rfl rfl ?_
        refine x_getR (pc := 34) hS fX0_18 dX0_paysOrGoes_34 rfl rfl ?_
        refine x_iload_n (pc := 37) (i := 2) dX0_paysOrGoes_37 rfl rfl ?_
        refine x_ald (pc := 38) hS dX0_paysOrGoes_38 rfl (by rw [vp_in_iff]; (try simp only [b2_e0, b2_n0, Decidable.not_not] at *) <;> (try simp only [i_lt, i_le, i_eq, not_and, not_or, ne_eq, il_0, il_1, il_2, il_3, il_4, il_5, il_6, il_7, il_8, il_9, il_10, il_14, il_15, il_19, il_20, il_24, il_30, il_31, il_44, il_48, il_49, il_52, il_57, il_59, il_60, il_70, il_99, il_100, il_103, il_108, il_114, il_m1, il_m2, il_m3, il_m4, il_m9, il_m10, il_m100] at *) <;> omega) ?_
        refine x_icmp_lt (pc := 39) (tgt := 46) dX0_paysOrGoes_39 (by decide) (fun h39 => ?_) (fun h39 => ?_)
        · refine x_iconst (pc := 46) (v := 0) dX0_paysOrGoes_46 (by decide) ?_
          refine x_istore (pc := 47) (L' := [_, _, _, _, _]) dX0_paysOrGoes_47 (by decide) rfl ?_
          refine x_iload (pc := 49) dX0_paysOrGoes_49 rfl ?_
          refine x_if_eq (pc := 51) (tgt := 72) dX0_paysOrGoes_51 (by decide) (fun _ => ?_) (fun h51 => absurd h51 (by decide))
          refine x_aload_n (pc := 72) (i := 0) dX0_paysOrGoes_72 rfl rfl ?_
          refine x_getR (pc := 73) hS fX0_33 dX0_paysOrGoes_73 rfl rfl ?_
          refine x_iload_n (pc := 76) (i := 1) dX0_paysOrGoes_76 rfl rfl ?_
          refine x_bipush (pc := 77) (v := (-9)) dX0_paysOrGoes_77 (by decide) ?_
          refine x_astN (pc := 79) hS dX0_paysOrGoes_79 rfl (by omega) (by decide) (fun hS => ?_)
          refine x_aload_n (pc := 80) (i := 0) dX0_paysOrGoes_80 rfl rfl ?_
          refine x_getR (pc := 81) hS fX0_36 dX0_paysOrGoes_81 rfl rfl ?_
          refine x_iload_n (pc := 84) (i := 1) dX0_paysOrGoes_84 rfl rfl ?_
          refine x_dup2 (pc := 85) dX0_paysOrGoes_85 rfl rfl ?_
          refine x_aldN (pc := 86) hS dX0_paysOrGoes_86 rfl (by omega) (by decide) ?_
          refine x_iconst (pc := 87) (v := 1) dX0_paysOrGoes_87 (by decide) ?_
          refine x_iadd (pc := 88) dX0_paysOrGoes_88 ?_
          refine x_astN (pc := 89) hS dX0_paysOrGoes_89 rfl (by omega) (by decide) (fun hS => ?_)
          refine x_iload (pc := 90) dX0_paysOrGoes_90 rfl ?_
          refine x_if_ne (pc := 92) (tgt := 99) dX0_paysOrGoes_92 (by decide) (fun h92 => absurd h92 (by decide)) (fun _ => ?_)
          refine x_iload_n (pc := 95) (i := 3) dX0_paysOrGoes_95 rfl rfl ?_
          refine x_if_ne (pc := 96) (tgt := 103) dX0_paysOrGoes_96 (by decide) (fun h96 => ?_) (fun h96 => ?_)
          · refine x_iconst (pc := 103) (v := 0) dX0_paysOrGoes_103 (by decide) ?_
            refine x_ri (pc := 104) dX0_paysOrGoes_104 rfl rfl ?_
            first | (exfalso; (try simp only [paysP, inB] at *) <;> (try simp only [b2_e0, b2_n0, Decidable.not_not] at *) <;> (try simp only [i_lt, i_le, i_eq, not_and, not_or, ne_eq, il_0, il_1, il_2, il_3, il_4, il_5, il_6, il_7, il_8, il_9, il_10, il_14, il_15, il_19, il_20, il_24, il_30, il_31, il_44, il_48, il_49, il_52, il_57, il_59, il_60, il_70, il_99, il_100, il_103, il_108, il_114, il_m1, il_m2, il_m3, il_m4, il_m9, il_m10, il_m100] at *) <;> omega; done) | exact ⟨rfl, rfl⟩ | exact ⟨rfl, by rw [arr_setA_a (by decide)]⟩
          · refine x_iconst (pc := 99) (v := 1) dX0_paysOrGoes_99 (by decide) ?_
            refine x_goto (pc := 100) (tgt := 104) dX0_paysOrGoes_100 (by decide) ?_
            refine x_ri (pc := 104) dX0_paysOrGoes_104 rfl rfl ?_
            first | (exfalso; (try simp only [paysP, inB] at *) <;> (try simp only [b2_e0, b2_n0, Decidable.not_not] at *) <;> (try simp only [i_lt, i_le, i_eq, not_and, not_or, ne_eq, il_0, il_1, il_2, il_3, il_4, il_5, il_6, il_7, il_8, il_9, il_10, il_14, il_15, il_19, il_20, il_24, il_30, il_31, il_44, il_48, il_49, il_52, il_57, il_59, il_60, il_70, il_99, il_100, il_103, il_108, il_114, il_m1, il_m2, il_m3, il_m4, il_m9, il_m10, il_m100] at *) <;> omega; done) | exact ⟨rfl, rfl⟩ | exact ⟨rfl, by rw [arr_setA_a (by decide)]⟩
        · refine x_iconst (pc := 42) (v := 1) dX0_paysOrGoes_42 (by decide) ?_
          refine x_goto (pc := 43) (tgt := 47) dX0_paysOrGoes_43 (by decide) ?_
          refine x_istore (pc := 47) (L' := [_, _, _, _, _]) dX0_paysOrGoes_47 (by decide) rfl ?_
          refine x_iload (pc := 49) dX0_paysOrGoes_49 rfl ?_
          refine x_if_eq (pc := 51) (tgt := 72) dX0_paysOrGoes_51 (by decide) (fun h51 => absurd h51 (by decide)) (fun _ => ?_)
          refine x_aload_n (pc := 54) (i := 0) dX0_paysOrGoes_54 rfl rfl ?_
          refine x_getR (pc := 55) hS fX0_24 dX0_paysOrGoes_55 rfl rfl ?_
          refine x_iload_n (pc := 58) (i := 1) dX0_paysOrGoes_58 rfl rfl ?_
          refine x_dup2 (pc := 59) dX0_paysOrGoes_59 rfl rfl ?_
          refine x_aldN (pc := 60) hS dX0_paysOrGoes_60 rfl (by omega) (by decide) ?_
          refine x_aload_n (pc := 61) (i := 0) dX0_paysOrGoes_61 rfl rfl ?_
          refine x_getR (pc := 62) hS fX0_18 dX0_paysOrGoes_62 rfl rfl ?_
          refine x_iload_n (pc := 65) (i := 2) dX0_paysOrGoes_65 rfl rfl ?_
          refine x_ald (pc := 66) hS dX0_paysOrGoes_66 rfl (by rw [vp_in_iff]; (try simp only [b2_e0, b2_n0, Decidable.not_not] at *) <;> (try simp only [i_lt, i_le, i_eq, not_and, not_or, ne_eq, il_0, il_1, il_2, il_3, il_4, il_5, il_6, il_7, il_8, il_9, il_10, il_14, il_15, il_19, il_20, il_24, il_30, il_31, il_44, il_48, il_49, il_52, il_57, il_59, il_60, il_70, il_99, il_100, il_103, il_108, il_114, il_m1, il_m2, il_m3, il_m4, il_m9, il_m10, il_m100] at *) <;> omega) ?_
          refine x_isub (pc := 67) dX0_paysOrGoes_67 ?_
          refine x_astN (pc := 68) hS dX0_paysOrGoes_68 rfl (by omega) (by decide) (fun hS => ?_)
          refine x_goto (pc := 69) (tgt := 90) dX0_paysOrGoes_69 (by decide) ?_
          refine x_iload (pc := 90) dX0_paysOrGoes_90 rfl ?_
          refine x_if_ne (pc := 92) (tgt := 99) dX0_paysOrGoes_92 (by decide) (fun _ => ?_) (fun h92 => absurd h92 (by decide))
          refine x_iconst (pc := 99) (v := 1) dX0_paysOrGoes_99 (by decide) ?_
          refine x_goto (pc := 100) (tgt := 104) dX0_paysOrGoes_100 (by decide) ?_
          refine x_ri (pc := 104) dX0_paysOrGoes_104 rfl rfl ?_
          first | (exfalso; (try simp only [paysP, inB] at *) <;> (try simp only [b2_e0, b2_n0, Decidable.not_not] at *) <;> (try simp only [i_lt, i_le, i_eq, not_and, not_or, ne_eq, il_0, il_1, il_2, il_3, il_4, il_5, il_6, il_7, il_8, il_9, il_10, il_14, il_15, il_19, il_20, il_24, il_30, il_31, il_44, il_48, il_49, il_52, il_57, il_59, il_60, il_70, il_99, il_100, il_103, il_108, il_114, il_m1, il_m2, il_m3, il_m4, il_m9, il_m10, il_m100] at *) <;> omega; done) | exact ⟨rfl, rfl⟩ | exact ⟨rfl, by rw [arr_setA_a (by decide)]⟩
    · simp only [if_neg hp, b2_t (Or.inr hi : paysP (fld w 18 0) (arr w 21) (arr w 23) (arr w 26) j ∨ ¬ inB (fld w 18 0) (arr w 26) j)]
      refine mC.of (L := [_, _, _, _, _]) okX0_paysOrGoes 3 rfl rfl ?_
      refine x_aload_n (pc := 0) (i := 0) dX0_paysOrGoes_0 rfl rfl ?_
      refine x_iload_n (pc := 1) (i := 1) dX0_paysOrGoes_1 rfl rfl ?_
      refine x_vs (pc := 2) (As := [_]) rfl hS lX0_57 dX0_paysOrGoes_2 rfl rfl (Nat.le_of_ble_eq_true rfl) (c_X0_hasWalker_18 hS) ?_
      rintro _ _ ⟨rfl, hq⟩
      obtain rfl := hq.symm
      refine x_pushI ?_
      refine x_if_ne (pc := 5) (tgt := 10) dX0_paysOrGoes_5 (by decide) (fun h5 => ?_) (fun h5 => absurd h5 (by rw [b2_n0]; (try simp only [b2_e0, b2_n0, Decidable.not_not] at *) <;> (try simp only [i_lt, i_le, i_eq, not_and, not_or, ne_eq, il_0, il_1, il_2, il_3, il_4, il_5, il_6, il_7, il_8, il_9, il_10, il_14, il_15, il_19, il_20, il_24, il_30, il_31, il_44, il_48, il_49, il_52, il_57, il_59, il_60, il_70, il_99, il_100, il_103, il_108, il_114, il_m1, il_m2, il_m3, il_m4, il_m9, il_m10, il_m100] at *) <;> omega))
      refine x_aload_n (pc := 10) (i := 0) dX0_paysOrGoes_10 rfl rfl ?_
      refine x_getR (pc := 11) hS fX0_33 dX0_paysOrGoes_11 rfl rfl ?_
      refine x_iload_n (pc := 14) (i := 1) dX0_paysOrGoes_14 rfl rfl ?_
      refine x_aldN (pc := 15) hS dX0_paysOrGoes_15 rfl (by omega) (by decide) ?_
      refine x_istore_n (pc := 16) (i := 2) (L' := [_, _, _, _, _]) dX0_paysOrGoes_16 rfl (by decide) rfl ?_
      refine x_aload_n (pc := 17) (i := 0) dX0_paysOrGoes_17 rfl rfl ?_
      refine x_iload_n (pc := 18) (i := 2) dX0_paysOrGoes_18 rfl rfl ?_
      refine x_vs (pc := 19) (As := [_]) rfl hS lX0_49 dX0_paysOrGoes_19 rfl rfl (Nat.le_of_ble_eq_true rfl) (c_X0_hasBarrow_18 hS) ?_
      rintro _ _ ⟨rfl, hq⟩
      obtain rfl := hq.symm
      refine x_pushI ?_
      refine x_istore_n (pc := 22) (i := 3) (L' := [_, _, _, _, _]) dX0_paysOrGoes_22 rfl (by decide) rfl ?_
      refine x_iload_n (pc := 23) (i := 3) dX0_paysOrGoes_23 rfl rfl ?_
      refine x_if_eq (pc := 24) (tgt := 46) dX0_paysOrGoes_24 (by decide) (fun h24 => ?_) (fun h24 => ?_)
      · refine x_iconst (pc := 46) (v := 0) dX0_paysOrGoes_46 (by decide) ?_
        refine x_istore (pc := 47) (L' := [_, _, _, _, _]) dX0_paysOrGoes_47 (by decide) rfl ?_
        refine x_iload (pc := 49) dX0_paysOrGoes_49 rfl ?_
        refine x_if_eq (pc := 51) (tgt := 72) dX0_paysOrGoes_51 (by decide) (fun _ => ?_) (fun h51 => absurd h51 (by decide))
        refine x_aload_n (pc := 72) (i := 0) dX0_paysOrGoes_72 rfl rfl ?_
        refine x_getR (pc := 73) hS fX0_33 dX0_paysOrGoes_73 rfl rfl ?_
        refine x_iload_n (pc := 76) (i := 1) dX0_paysOrGoes_76 rfl rfl ?_
        refine x_bipush (pc := 77) (v := (-9)) dX0_paysOrGoes_77 (by decide) ?_
        refine x_astN (pc := 79) hS dX0_paysOrGoes_79 rfl (by omega) (by decide) (fun hS => ?_)
        refine x_aload_n (pc := 80) (i := 0) dX0_paysOrGoes_80 rfl rfl ?_
        refine x_getR (pc := 81) hS fX0_36 dX0_paysOrGoes_81 rfl rfl ?_
        refine x_iload_n (pc := 84) (i := 1) dX0_paysOrGoes_84 rfl rfl ?_
        refine x_dup2 (pc := 85) dX0_paysOrGoes_85 rfl rfl ?_
        refine x_aldN (pc := 86) hS dX0_paysOrGoes_86 rfl (by omega) (by decide) ?_
        refine x_iconst (pc := 87) (v := 1) dX0_paysOrGoes_87 (by decide) ?_
        refine x_iadd (pc := 88) dX0_paysOrGoes_88 ?_
        refine x_astN (pc := 89) hS dX0_paysOrGoes_89 rfl (by omega) (by decide) (fun hS => ?_)
        refine x_iload (pc := 90) dX0_paysOrGoes_90 rfl ?_
        refine x_if_ne (pc := 92) (tgt := 99) dX0_paysOrGoes_92 (by decide) (fun h92 => absurd h92 (by decide)) (fun _ => ?_)
        refine x_iload_n (pc := 95) (i := 3) dX0_paysOrGoes_95 rfl rfl ?_
        refine x_if_ne (pc := 96) (tgt := 103) dX0_paysOrGoes_96 (by decide) (fun h96 => ?_) (fun h96 => ?_)
        · refine x_iconst (pc := 103) (v := 0) dX0_paysOrGoes_103 (by decide) ?_
          refine x_ri (pc := 104) dX0_paysOrGoes_104 rfl rfl ?_
          first | (exfalso; (try simp only [paysP, inB] at *) <;> (try simp only [b2_e0, b2_n0, Decidable.not_not] at *) <;> (try simp only [i_lt, i_le, i_eq, not_and, not_or, ne_eq, il_0, il_1, il_2, il_3, il_4, il_5, il_6, il_7, il_8, il_9, il_10, il_14, il_15, il_19, il_20, il_24, il_30, il_31, il_44, il_48, il_49, il_52, il_57, il_59, il_60, il_70, il_99, il_100, il_103, il_108, il_114, il_m1, il_m2, il_m3, il_m4, il_m9, il_m10, il_m100] at *) <;> omega; done) | exact ⟨rfl, rfl⟩ | exact ⟨rfl, by rw [arr_setA_a (by decide)]⟩
        · refine x_iconst (pc := 99) (v := 1) dX0_paysOrGoes_99 (by decide) ?_
          refine x_goto (pc := 100) (tgt := 104) dX0_paysOrGoes_100 (by decide) ?_
          refine x_ri (pc := 104) dX0_paysOrGoes_104 rfl rfl ?_
          first | (exfalso; (try simp only [paysP, inB] at *) <;> (try simp only [b2_e0, b2_n0, Decidable.not_not] at *) <;> (try simp only [i_lt, i_le, i_eq, not_and, not_or, ne_eq, il_0, il_1, il_2, il_3, il_4, il_5, il_6, il_7, il_8, il_9, il_10, il_14, il_15, il_19, il_20, il_24, il_30, il_31, il_44, il_48, il_49, il_52, il_57, il_59, il_60, il_70, il_99, il_100, il_103, il_108, il_114, il_m1, il_m2, il_m3, il_m4, il_m9, il_m10, il_m100] at *) <;> omega; done) | exact ⟨rfl, rfl⟩ | exact ⟨rfl, by rw [arr_setA_a (by decide)]⟩
      · refine x_aload_n (pc := 27) (i := 0) dX0_paysOrGoes_27 rfl rfl ?_
        refine x_getR (pc := 28) hS fX0_24 dX0_paysOrGoes_28 rfl rfl ?_
        refine x_iload_n (pc := 31) (i := 1) dX0_paysOrGoes_31 rfl rfl ?_
        refine x_aldN (pc := 32) hS dX0_paysOrGoes_32 rfl (by omega) (by decide) ?_
        refine x_aload_n (pc := 33) (i := 0) dX0_paysOrGoes_33 rfl rfl ?_
        refine x_getR (pc := 34) hS fX0_18 dX0_paysOrGoes_34 rfl rfl ?_
        refine x_iload_n (pc := 37) (i := 2) dX0_paysOrGoes_37 rfl rfl ?_
        refine x_ald (pc := 38) hS dX0_paysOrGoes_38 rfl (by rw [vp_in_iff]; (try simp only [b2_e0, b2_n0, Decidable.not_not] at *) <;> (try simp only [i_lt, i_le, i_eq, not_and, not_or, ne_eq, il_0, il_1, il_2, il_3, il_4, il_5, il_6, il_7, il_8, il_9, il_10, il_14, il_15, il_19, il_20, il_24, il_30, il_31, il_44, il_48, il_49, il_52, il_57, il_59, il_60, il_70, il_99, il_100, il_103, il_108, il_114, il_m1, il_m2, il_m3, il_m4, il_m9, il_m10, il_m100] at *) <;> omega) ?_
        refine x_icmp_lt (pc := 39) (tgt := 46) dX0_paysOrGoes_39 (by decide) (fun h39 => ?_) (fun h39 => ?_)
        · refine x_iconst (pc := 46) (v := 0) dX0_paysOrGoes_46 (by decide) ?_
          refine x_istore (pc := 47) (L' := [_, _, _, _, _]) dX0_paysOrGoes_47 (by decide) rfl ?_
          refine x_iload (pc := 49) dX0_paysOrGoes_49 rfl ?_
          refine x_if_eq (pc := 51) (tgt := 72) dX0_paysOrGoes_51 (by decide) (fun _ => ?_) (fun h51 => absurd h51 (by decide))
          refine x_aload_n (pc := 72) (i := 0) dX0_paysOrGoes_72 rfl rfl ?_
          refine x_getR (pc := 73) hS fX0_33 dX0_paysOrGoes_73 rfl rfl ?_
          refine x_iload_n (pc := 76) (i := 1) dX0_paysOrGoes_76 rfl rfl ?_
          refine x_bipush (pc := 77) (v := (-9)) dX0_paysOrGoes_77 (by decide) ?_
          refine x_astN (pc := 79) hS dX0_paysOrGoes_79 rfl (by omega) (by decide) (fun hS => ?_)
          refine x_aload_n (pc := 80) (i := 0) dX0_paysOrGoes_80 rfl rfl ?_
          refine x_getR (pc := 81) hS fX0_36 dX0_paysOrGoes_81 rfl rfl ?_
          refine x_iload_n (pc := 84) (i := 1) dX0_paysOrGoes_84 rfl rfl ?_
          refine x_dup2 (pc := 85) dX0_paysOrGoes_85 rfl rfl ?_
          refine x_aldN (pc := 86) hS dX0_paysOrGoes_86 rfl (by omega) (by decide) ?_
          refine x_iconst (pc := 87) (v := 1) dX0_paysOrGoes_87 (by decide) ?_
          refine x_iadd (pc := 88) dX0_paysOrGoes_88 ?_
          refine x_astN (pc := 89) hS dX0_paysOrGoes_89 rfl (by omega) (by decide) (fun hS => ?_)
          refine x_iload (pc := 90) dX0_paysOrGoes_90 rfl ?_
          refine x_if_ne (pc := 92) (tgt := 99) dX0_paysOrGoes_92 (by decide) (fun h92 => absurd h92 (by decide)) (fun _ => ?_)
          refine x_iload_n (pc := 95) (i := 3) dX0_paysOrGoes_95 rfl rfl ?_
          refine x_if_ne (pc := 96) (tgt := 103) dX0_paysOrGoes_96 (by decide) (fun h96 => ?_) (fun h96 => ?_)
          · refine x_iconst (pc := 103) (v := 0) dX0_paysOrGoes_103 (by decide) ?_
            refine x_ri (pc := 104) dX0_paysOrGoes_104 rfl rfl ?_
            first | (exfalso; (try simp only [paysP, inB] at *) <;> (try simp only [b2_e0, b2_n0, Decidable.not_not] at *) <;> (try simp only [i_lt, i_le, i_eq, not_and, not_or, ne_eq, il_0, il_1, il_2, il_3, il_4, il_5, il_6, il_7, il_8, il_9, il_10, il_14, il_15, il_19, il_20, il_24, il_30, il_31, il_44, il_48, il_49, il_52, il_57, il_59, il_60, il_70, il_99, il_100, il_103, il_108, il_114, il_m1, il_m2, il_m3, il_m4, il_m9, il_m10, il_m100] at *) <;> omega; done) | exact ⟨rfl, rfl⟩ | exact ⟨rfl, by rw [arr_setA_a (by decide)]⟩
          · refine x_iconst (pc := 99) (v := 1) dX0_paysOrGoes_99 (by decide) ?_
            refine x_goto (pc := 100) (tgt := 104) dX0_paysOrGoes_100 (by decide) ?_
            refine x_ri (pc := 104) dX0_paysOrGoes_104 rfl rfl ?_
            first | (exfalso; (try simp only [paysP, inB] at *) <;> (try simp only [b2_e0, b2_n0, Decidable.not_not] at *) <;> (try simp only [i_lt, i_le, i_eq, not_and, not_or, ne_eq, il_0, il_1, il_2, il_3, il_4, il_5, il_6, il_7, il_8, il_9, il_10, il_14, il_15, il_19, il_20, il_24, il_30, il_31, il_44, il_48, il_49, il_52, il_57, il_59, il_60, il_70, il_99, il_100, il_103, il_108, il_114, il_m1, il_m2, il_m3, il_m4, il_m9, il_m10, il_m100] at *) <;> omega; done) | exact ⟨rfl, rfl⟩ | exact ⟨rfl, by rw [arr_setA_a (by decide)]⟩
        · refine x_iconst (pc := 42) (v := 1) dX0_paysOrGoes_42 (by decide) ?_
          refine x_goto (pc := 43) (tgt := 47) dX0_paysOrGoes_43 (by decide) ?_
          refine x_istore (pc := 47) (L' := [_, _, _, _, _]) dX0_paysOrGoes_47 (by decide) rfl ?_
          refine x_iload (pc := 49) dX0_paysOrGoes_49 rfl ?_
          refine x_if_eq (pc := 51) (tgt := 72) dX0_paysOrGoes_51 (by decide) (fun h51 => absurd h51 (by decide)) (fun _ => ?_)
          refine x_aload_n (pc := 54) (i := 0) dX0_paysOrGoes_54 rfl rfl ?_
          refine x_getR (pc := 55) hS fX0_24 dX0_paysOrGoes_55 rfl rfl ?_
          refine x_iload_n (pc := 58) (i := 1) dX0_paysOrGoes_58 rfl rfl ?_
          refine x_dup2 (pc := 59) dX0_paysOrGoes_59 rfl rfl ?_
          refine x_aldN (pc := 60) hS dX0_paysOrGoes_60 rfl (by omega) (by decide) ?_
          refine x_aload_n (pc := 61) (i := 0) dX0_paysOrGoes_61 rfl rfl ?_
          refine x_getR (pc := 62) hS fX0_18 dX0_paysOrGoes_62 rfl rfl ?_
          refine x_iload_n (pc := 65) (i := 2) dX0_paysOrGoes_65 rfl rfl ?_
          refine x_ald (pc := 66) hS dX0_paysOrGoes_66 rfl (by rw [vp_in_iff]; (try simp only [b2_e0, b2_n0, Decidable.not_not] at *) <;> (try simp only [i_lt, i_le, i_eq, not_and, not_or, ne_eq, il_0, il_1, il_2, il_3, il_4, il_5, il_6, il_7, il_8, il_9, il_10, il_14, il_15, il_19, il_20, il_24, il_30, il_31, il_44, il_48, il_49, il_52, il_57, il_59, il_60, il_70, il_99, il_100, il_103, il_108, il_114, il_m1, il_m2, il_m3, il_m4, il_m9, il_m10, il_m100] at *) <;> omega) ?_
          refine x_isub (pc := 67) dX0_paysOrGoes_67 ?_
          refine x_astN (pc := 68) hS dX0_paysOrGoes_68 rfl (by omega) (by decide) (fun hS => ?_)
          refine x_goto (pc := 69) (tgt := 90) dX0_paysOrGoes_69 (by decide) ?_
          refine x_iload (pc := 90) dX0_paysOrGoes_90 rfl ?_
          refine x_if_ne (pc := 92) (tgt := 99) dX0_paysOrGoes_92 (by decide) (fun _ => ?_) (fun h92 => absurd h92 (by decide))
          refine x_iconst (pc := 99) (v := 1) dX0_paysOrGoes_99 (by decide) ?_
          refine x_goto (pc := 100) (tgt := 104) dX0_paysOrGoes_100 (by decide) ?_
          refine x_ri (pc := 104) dX0_paysOrGoes_104 rfl rfl ?_
          first | (exfalso; (try simp only [paysP, inB] at *) <;> (try simp only [b2_e0, b2_n0, Decidable.not_not] at *) <;> (try simp only [i_lt, i_le, i_eq, not_and, not_or, ne_eq, il_0, il_1, il_2, il_3, il_4, il_5, il_6, il_7, il_8, il_9, il_10, il_14, il_15, il_19, il_20, il_24, il_30, il_31, il_44, il_48, il_49, il_52, il_57, il_59, il_60, il_70, il_99, il_100, il_103, il_108, il_114, il_m1, il_m2, il_m3, il_m4, il_m9, il_m10, il_m100] at *) <;> omega; done) | exact ⟨rfl, rfl⟩ | exact ⟨rfl, by rw [arr_setA_a (by decide)]⟩

