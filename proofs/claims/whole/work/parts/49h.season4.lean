-- seasons: the reference
theorem c_X8_refusesPair {d : Nat} {w : mW} {a b : Int32} (hS : Shape w) : mC (d + 1) kX8_refusesPair [.ref 44, .int a, .int b] w (fun r w' => r = some (.int (refE (fld w 44 5) (fld w 44 6) a b)) ∧ w' = w) := by
  unfold refE
  refine mC.of (L := [_, _, _]) okX8_refusesPair 0 rfl rfl ?_
  refine x_aload_n (pc := 0) (i := 0) dX8_refusesPair_0 rfl rfl ?_
  refine x_iload_n (pc := 1) (i := 2) dX8_refusesPair_1 rfl rfl ?_
  refine x_vs (pc := 2) (As := [_]) rfl hS lX8_152 dX8_refusesPair_2 rfl rfl (Nat.le_of_ble_eq_true rfl) (c_X8_isBarrow hS) ?_
  rintro _ _ ⟨rfl, hq⟩
  obtain rfl := hq.symm
  refine x_pushI ?_
  refine x_if_ne (pc := 5) (tgt := 20) dX8_refusesPair_5 (by decide) (fun h5 => ?_) (fun h5 => ?_)
  · refine x_iload_n (pc := 20) (i := 2) dX8_refusesPair_20 rfl rfl ?_
    refine x_bipush (pc := 21) (v := 8) dX8_refusesPair_21 (by decide) ?_
    refine x_icmp_ne (pc := 23) (tgt := 39) dX8_refusesPair_23 (by decide) (fun h23 => ?_) (fun h23 => ?_)
    · refine x_iload_n (pc := 39) (i := 2) dX8_refusesPair_39 rfl rfl ?_
      refine x_bipush (pc := 40) (v := 8) dX8_refusesPair_40 (by decide) ?_
      refine x_icmp_eq (pc := 42) (tgt := 57) dX8_refusesPair_42 (by decide) (fun h42 => ?_) (fun h42 => ?_)
      · refine x_iconst (pc := 57) (v := 0) dX8_refusesPair_57 (by decide) ?_
        refine x_ri (pc := 58) dX8_refusesPair_58 rfl rfl ?_
        first | (have z1 : b = 8 := h42; have z2 : ¬ b = 8 := h23; exact absurd z1 z2) | (have z1 : ¬ b = 8 := h42; have z2 : b = 8 := h23; exact absurd z2 z1) | (have z1 : b = 8 := h42; have z9 := b2_n0.mp h33; refine ⟨?_, rfl⟩; rw [if_pos z1, if_pos z9]) | (have z1 : ¬ b = 8 := h42; have z2 : b = 9 ∨ (0 ≤ b ∧ b < fld w 44 5) := (by first | exact Or.inr (b2_n0.mp h5) | exact Or.inl h17 | exact absurd h11 h42); refine ⟨?_, rfl⟩; rw [if_neg z1, if_pos z2]; first | (have z9 := b2_n0.mp h50; rw [if_pos z9]) | (have z9 := b2_e0.mp h50; rw [if_neg z9]))
      · refine x_aload_n (pc := 45) (i := 0) dX8_refusesPair_45 rfl rfl ?_
        refine x_iload_n (pc := 46) (i := 1) dX8_refusesPair_46 rfl rfl ?_
        refine x_vs (pc := 47) (As := [_]) rfl hS lX8_161 dX8_refusesPair_47 rfl rfl (Nat.le_of_ble_eq_true rfl) (c_X8_isWalker hS) ?_
        rintro _ _ ⟨rfl, hq⟩
        obtain rfl := hq.symm
        refine x_pushI ?_
        refine x_if_ne (pc := 50) (tgt := 57) dX8_refusesPair_50 (by decide) (fun h50 => ?_) (fun h50 => ?_)
        · refine x_iconst (pc := 57) (v := 0) dX8_refusesPair_57 (by decide) ?_
          refine x_ri (pc := 58) dX8_refusesPair_58 rfl rfl ?_
          first | (have z1 : b = 8 := h42; have z2 : ¬ b = 8 := h23; exact absurd z1 z2) | (have z1 : ¬ b = 8 := h42; have z2 : b = 8 := h23; exact absurd z2 z1) | (have z1 : b = 8 := h42; have z9 := b2_n0.mp h33; refine ⟨?_, rfl⟩; rw [if_pos z1, if_pos z9]) | (have z1 : ¬ b = 8 := h42; have z2 : b = 9 ∨ (0 ≤ b ∧ b < fld w 44 5) := (by first | exact Or.inr (b2_n0.mp h5) | exact Or.inl h17 | exact absurd h11 h42); refine ⟨?_, rfl⟩; rw [if_neg z1, if_pos z2]; first | (have z9 := b2_n0.mp h50; rw [if_pos z9]) | (have z9 := b2_e0.mp h50; rw [if_neg z9]))
        · refine x_iconst (pc := 53) (v := (-1)) dX8_refusesPair_53 (by decide) ?_
          refine x_goto (pc := 54) (tgt := 58) dX8_refusesPair_54 (by decide) ?_
          refine x_ri (pc := 58) dX8_refusesPair_58 rfl rfl ?_
          first | (have z1 : b = 8 := h42; have z2 : ¬ b = 8 := h23; exact absurd z1 z2) | (have z1 : ¬ b = 8 := h42; have z2 : b = 8 := h23; exact absurd z2 z1) | (have z1 : b = 8 := h42; have z9 := b2_n0.mp h33; refine ⟨?_, rfl⟩; rw [if_pos z1, if_pos z9]) | (have z1 : ¬ b = 8 := h42; have z2 : b = 9 ∨ (0 ≤ b ∧ b < fld w 44 5) := (by first | exact Or.inr (b2_n0.mp h5) | exact Or.inl h17 | exact absurd h11 h42); refine ⟨?_, rfl⟩; rw [if_neg z1, if_pos z2]; first | (have z9 := b2_n0.mp h50; rw [if_pos z9]) | (have z9 := b2_e0.mp h50; rw [if_neg z9]))
    · refine x_iload_n (pc := 26) (i := 1) dX8_refusesPair_26 rfl rfl ?_
      refine x_iconst (pc := 27) (v := 0) dX8_refusesPair_27 (by decide) ?_
      refine x_bipush (pc := 28) (v := 9) dX8_refusesPair_28 (by decide) ?_
      refine x_ss (pc := 30) (As := [_, _, _]) rfl lX8_88 dX8_refusesPair_30 rfl (Nat.le_of_ble_eq_true rfl) c_X8_within ?_
      rintro _ _ ⟨rfl, hq⟩
      obtain rfl := hq.symm
      refine x_pushI ?_
      refine x_if_ne (pc := 33) (tgt := 39) dX8_refusesPair_33 (by decide) (fun h33 => ?_) (fun h33 => ?_)
      · refine x_iload_n (pc := 39) (i := 2) dX8_refusesPair_39 rfl rfl ?_
        refine x_bipush (pc := 40) (v := 8) dX8_refusesPair_40 (by decide) ?_
        refine x_icmp_eq (pc := 42) (tgt := 57) dX8_refusesPair_42 (by decide) (fun h42 => ?_) (fun h42 => ?_)
        · refine x_iconst (pc := 57) (v := 0) dX8_refusesPair_57 (by decide) ?_
          refine x_ri (pc := 58) dX8_refusesPair_58 rfl rfl ?_
          first | (have z1 : b = 8 := h42; have z2 : ¬ b = 8 := h23; exact absurd z1 z2) | (have z1 : ¬ b = 8 := h42; have z2 : b = 8 := h23; exact absurd z2 z1) | (have z1 : b = 8 := h42; have z9 := b2_n0.mp h33; refine ⟨?_, rfl⟩; rw [if_pos z1, if_pos z9]) | (have z1 : ¬ b = 8 := h42; have z2 : b = 9 ∨ (0 ≤ b ∧ b < fld w 44 5) := (by first | exact Or.inr (b2_n0.mp h5) | exact Or.inl h17 | exact absurd h11 h42); refine ⟨?_, rfl⟩; rw [if_neg z1, if_pos z2]; first | (have z9 := b2_n0.mp h50; rw [if_pos z9]) | (have z9 := b2_e0.mp h50; rw [if_neg z9]))
        · refine x_aload_n (pc := 45) (i := 0) dX8_refusesPair_45 rfl rfl ?_
          refine x_iload_n (pc := 46) (i := 1) dX8_refusesPair_46 rfl rfl ?_
          refine x_vs (pc := 47) (As := [_]) rfl hS lX8_161 dX8_refusesPair_47 rfl rfl (Nat.le_of_ble_eq_true rfl) (c_X8_isWalker hS) ?_
          rintro _ _ ⟨rfl, hq⟩
          obtain rfl := hq.symm
          refine x_pushI ?_
          refine x_if_ne (pc := 50) (tgt := 57) dX8_refusesPair_50 (by decide) (fun h50 => ?_) (fun h50 => ?_)
          · refine x_iconst (pc := 57) (v := 0) dX8_refusesPair_57 (by decide) ?_
            refine x_ri (pc := 58) dX8_refusesPair_58 rfl rfl ?_
            first | (have z1 : b = 8 := h42; have z2 : ¬ b = 8 := h23; exact absurd z1 z2) | (have z1 : ¬ b = 8 := h42; have z2 : b = 8 := h23; exact absurd z2 z1) | (have z1 : b = 8 := h42; have z9 := b2_n0.mp h33; refine ⟨?_, rfl⟩; rw [if_pos z1, if_pos z9]) | (have z1 : ¬ b = 8 := h42; have z2 : b = 9 ∨ (0 ≤ b ∧ b < fld w 44 5) := (by first | exact Or.inr (b2_n0.mp h5) | exact Or.inl h17 | exact absurd h11 h42); refine ⟨?_, rfl⟩; rw [if_neg z1, if_pos z2]; first | (have z9 := b2_n0.mp h50; rw [if_pos z9]) | (have z9 := b2_e0.mp h50; rw [if_neg z9]))
          · refine x_iconst (pc := 53) (v := (-1)) dX8_refusesPair_53 (by decide) ?_
            refine x_goto (pc := 54) (tgt := 58) dX8_refusesPair_54 (by decide) ?_
            refine x_ri (pc := 58) dX8_refusesPair_58 rfl rfl ?_
            first | (have z1 : b = 8 := h42; have z2 : ¬ b = 8 := h23; exact absurd z1 z2) | (have z1 : ¬ b = 8 := h42; have z2 : b = 8 := h23; exact absurd z2 z1) | (have z1 : b = 8 := h42; have z9 := b2_n0.mp h33; refine ⟨?_, rfl⟩; rw [if_pos z1, if_pos z9]) | (have z1 : ¬ b = 8 := h42; have z2 : b = 9 ∨ (0 ≤ b ∧ b < fld w 44 5) := (by first | exact Or.inr (b2_n0.mp h5) | exact Or.inl h17 | exact absurd h11 h42); refine ⟨?_, rfl⟩; rw [if_neg z1, if_pos z2]; first | (have z9 := b2_n0.mp h50; rw [if_pos z9]) | (have z9 := b2_e0.mp h50; rw [if_neg z9]))
      · refine x_bipush (pc := 36) (v := (-2)) dX8_refusesPair_36 (by decide) ?_
        refine x_ri (pc := 38) dX8_refusesPair_38 rfl rfl ?_
        refine ⟨?_, rfl⟩
        first | (have z9 := b2_e0.mp h5; have z8 : ¬ b = 8 := h11; have z7 : ¬ b = 9 := h17; rw [if_neg z8, if_neg (fun z => z.elim z7 z9)]) | (have z9 := b2_e0.mp h33; have z8 : b = 8 := h23; rw [if_pos z8, if_neg z9])
  · refine x_iload_n (pc := 8) (i := 2) dX8_refusesPair_8 rfl rfl ?_
    refine x_bipush (pc := 9) (v := 8) dX8_refusesPair_9 (by decide) ?_
    refine x_icmp_eq (pc := 11) (tgt := 20) dX8_refusesPair_11 (by decide) (fun h11 => ?_) (fun h11 => ?_)
    · refine x_iload_n (pc := 20) (i := 2) dX8_refusesPair_20 rfl rfl ?_
      refine x_bipush (pc := 21) (v := 8) dX8_refusesPair_21 (by decide) ?_
      refine x_icmp_ne (pc := 23) (tgt := 39) dX8_refusesPair_23 (by decide) (fun h23 => ?_) (fun h23 => ?_)
      · refine x_iload_n (pc := 39) (i := 2) dX8_refusesPair_39 rfl rfl ?_
        refine x_bipush (pc := 40) (v := 8) dX8_refusesPair_40 (by decide) ?_
        refine x_icmp_eq (pc := 42) (tgt := 57) dX8_refusesPair_42 (by decide) (fun h42 => ?_) (fun h42 => ?_)
        · refine x_iconst (pc := 57) (v := 0) dX8_refusesPair_57 (by decide) ?_
          refine x_ri (pc := 58) dX8_refusesPair_58 rfl rfl ?_
          first | (have z1 : b = 8 := h42; have z2 : ¬ b = 8 := h23; exact absurd z1 z2) | (have z1 : ¬ b = 8 := h42; have z2 : b = 8 := h23; exact absurd z2 z1) | (have z1 : b = 8 := h42; have z9 := b2_n0.mp h33; refine ⟨?_, rfl⟩; rw [if_pos z1, if_pos z9]) | (have z1 : ¬ b = 8 := h42; have z2 : b = 9 ∨ (0 ≤ b ∧ b < fld w 44 5) := (by first | exact Or.inr (b2_n0.mp h5) | exact Or.inl h17 | exact absurd h11 h42); refine ⟨?_, rfl⟩; rw [if_neg z1, if_pos z2]; first | (have z9 := b2_n0.mp h50; rw [if_pos z9]) | (have z9 := b2_e0.mp h50; rw [if_neg z9]))
        · refine x_aload_n (pc := 45) (i := 0) dX8_refusesPair_45 rfl rfl ?_
          refine x_iload_n (pc := 46) (i := 1) dX8_refusesPair_46 rfl rfl ?_
          refine x_vs (pc := 47) (As := [_]) rfl hS lX8_161 dX8_refusesPair_47 rfl rfl (Nat.le_of_ble_eq_true rfl) (c_X8_isWalker hS) ?_
          rintro _ _ ⟨rfl, hq⟩
          obtain rfl := hq.symm
          refine x_pushI ?_
          refine x_if_ne (pc := 50) (tgt := 57) dX8_refusesPair_50 (by decide) (fun h50 => ?_) (fun h50 => ?_)
          · refine x_iconst (pc := 57) (v := 0) dX8_refusesPair_57 (by decide) ?_
            refine x_ri (pc := 58) dX8_refusesPair_58 rfl rfl ?_
            first | (have z1 : b = 8 := h42; have z2 : ¬ b = 8 := h23; exact absurd z1 z2) | (have z1 : ¬ b = 8 := h42; have z2 : b = 8 := h23; exact absurd z2 z1) | (have z1 : b = 8 := h42; have z9 := b2_n0.mp h33; refine ⟨?_, rfl⟩; rw [if_pos z1, if_pos z9]) | (have z1 : ¬ b = 8 := h42; have z2 : b = 9 ∨ (0 ≤ b ∧ b < fld w 44 5) := (by first | exact Or.inr (b2_n0.mp h5) | exact Or.inl h17 | exact absurd h11 h42); refine ⟨?_, rfl⟩; rw [if_neg z1, if_pos z2]; first | (have z9 := b2_n0.mp h50; rw [if_pos z9]) | (have z9 := b2_e0.mp h50; rw [if_neg z9]))
          · refine x_iconst (pc := 53) (v := (-1)) dX8_refusesPair_53 (by decide) ?_
            refine x_goto (pc := 54) (tgt := 58) dX8_refusesPair_54 (by decide) ?_
            refine x_ri (pc := 58) dX8_refusesPair_58 rfl rfl ?_
            first | (have z1 : b = 8 := h42; have z2 : ¬ b = 8 := h23; exact absurd z1 z2) | (have z1 : ¬ b = 8 := h42; have z2 : b = 8 := h23; exact absurd z2 z1) | (have z1 : b = 8 := h42; have z9 := b2_n0.mp h33; refine ⟨?_, rfl⟩; rw [if_pos z1, if_pos z9]) | (have z1 : ¬ b = 8 := h42; have z2 : b = 9 ∨ (0 ≤ b ∧ b < fld w 44 5) := (by first | exact Or.inr (b2_n0.mp h5) | exact Or.inl h17 | exact absurd h11 h42); refine ⟨?_, rfl⟩; rw [if_neg z1, if_pos z2]; first | (have z9 := b2_n0.mp h50; rw [if_pos z9]) | (have z9 := b2_e0.mp h50; rw [if_neg z9]))
      · refine x_iload_n (pc := 26) (i := 1) dX8_refusesPair_26 rfl rfl ?_
        refine x_iconst (pc := 27) (v := 0) dX8_refusesPair_27 (by decide) ?_
        refine x_bipush (pc := 28) (v := 9) dX8_refusesPair_28 (by decide) ?_
        refine x_ss (pc := 30) (As := [_, _, _]) rfl lX8_88 dX8_refusesPair_30 rfl (Nat.le_of_ble_eq_true rfl) c_X8_within ?_
        rintro _ _ ⟨rfl, hq⟩
        obtain rfl := hq.symm
        refine x_pushI ?_
        refine x_if_ne (pc := 33) (tgt := 39) dX8_refusesPair_33 (by decide) (fun h33 => ?_) (fun h33 => ?_)
        · refine x_iload_n (pc := 39) (i := 2) dX8_refusesPair_39 rfl rfl ?_
          refine x_bipush (pc := 40) (v := 8) dX8_refusesPair_40 (by decide) ?_
          refine x_icmp_eq (pc := 42) (tgt := 57) dX8_refusesPair_42 (by decide) (fun h42 => ?_) (fun h42 => ?_)
          · refine x_iconst (pc := 57) (v := 0) dX8_refusesPair_57 (by decide) ?_
            refine x_ri (pc := 58) dX8_refusesPair_58 rfl rfl ?_
            first | (have z1 : b = 8 := h42; have z2 : ¬ b = 8 := h23; exact absurd z1 z2) | (have z1 : ¬ b = 8 := h42; have z2 : b = 8 := h23; exact absurd z2 z1) | (have z1 : b = 8 := h42; have z9 := b2_n0.mp h33; refine ⟨?_, rfl⟩; rw [if_pos z1, if_pos z9]) | (have z1 : ¬ b = 8 := h42; have z2 : b = 9 ∨ (0 ≤ b ∧ b < fld w 44 5) := (by first | exact Or.inr (b2_n0.mp h5) | exact Or.inl h17 | exact absurd h11 h42); refine ⟨?_, rfl⟩; rw [if_neg z1, if_pos z2]; first | (have z9 := b2_n0.mp h50; rw [if_pos z9]) | (have z9 := b2_e0.mp h50; rw [if_neg z9]))
          · refine x_aload_n (pc := 45) (i := 0) dX8_refusesPair_45 rfl rfl ?_
            refine x_iload_n (pc := 46) (i := 1) dX8_refusesPair_46 rfl rfl ?_
            refine x_vs (pc := 47) (As := [_]) rfl hS lX8_161 dX8_refusesPair_47 rfl rfl (Nat.le_of_ble_eq_true rfl) (c_X8_isWalker hS) ?_
            rintro _ _ ⟨rfl, hq⟩
            obtain rfl := hq.symm
            refine x_pushI ?_
            refine x_if_ne (pc := 50) (tgt := 57) dX8_refusesPair_50 (by decide) (fun h50 => ?_) (fun h50 => ?_)
            · refine x_iconst (pc := 57) (v := 0) dX8_refusesPair_57 (by decide) ?_
              refine x_ri (pc := 58) dX8_refusesPair_58 rfl rfl ?_
              first | (have z1 : b = 8 := h42; have z2 : ¬ b = 8 := h23; exact absurd z1 z2) | (have z1 : ¬ b = 8 := h42; have z2 : b = 8 := h23; exact absurd z2 z1) | (have z1 : b = 8 := h42; have z9 := b2_n0.mp h33; refine ⟨?_, rfl⟩; rw [if_pos z1, if_pos z9]) | (have z1 : ¬ b = 8 := h42; have z2 : b = 9 ∨ (0 ≤ b ∧ b < fld w 44 5) := (by first | exact Or.inr (b2_n0.mp h5) | exact Or.inl h17 | exact absurd h11 h42); refine ⟨?_, rfl⟩; rw [if_neg z1, if_pos z2]; first | (have z9 := b2_n0.mp h50; rw [if_pos z9]) | (have z9 := b2_e0.mp h50; rw [if_neg z9]))
            · refine x_iconst (pc := 53) (v := (-1)) dX8_refusesPair_53 (by decide) ?_
              refine x_goto (pc := 54) (tgt := 58) dX8_refusesPair_54 (by decide) ?_
              refine x_ri (pc := 58) dX8_refusesPair_58 rfl rfl ?_
              first | (have z1 : b = 8 := h42; have z2 : ¬ b = 8 := h23; exact absurd z1 z2) | (have z1 : ¬ b = 8 := h42; have z2 : b = 8 := h23; exact absurd z2 z1) | (have z1 : b = 8 := h42; have z9 := b2_n0.mp h33; refine ⟨?_, rfl⟩; rw [if_pos z1, if_pos z9]) | (have z1 : ¬ b = 8 := h42; have z2 : b = 9 ∨ (0 ≤ b ∧ b < fld w 44 5) := (by first | exact Or.inr (b2_n0.mp h5) | exact Or.inl h17 | exact absurd h11 h42); refine ⟨?_, rfl⟩; rw [if_neg z1, if_pos z2]; first | (have z9 := b2_n0.mp h50; rw [if_pos z9]) | (have z9 := b2_e0.mp h50; rw [if_neg z9]))
        · refine x_bipush (pc := 36) (v := (-2)) dX8_refusesPair_36 (by decide) ?_
          refine x_ri (pc := 38) dX8_refusesPair_38 rfl rfl ?_
          refine ⟨?_, rfl⟩
          first | (have z9 := b2_e0.mp h5; have z8 : ¬ b = 8 := h11; have z7 : ¬ b = 9 := h17; rw [if_neg z8, if_neg (fun z => z.elim z7 z9)]) | (have z9 := b2_e0.mp h33; have z8 : b = 8 := h23; rw [if_pos z8, if_neg z9])
    · refine x_iload_n (pc := 14) (i := 2) dX8_refusesPair_14 rfl rfl ?_
      refine x_bipush (pc := 15) (v := 9) dX8_refusesPair_15 (by decide) ?_
      refine x_icmp_ne (pc := 17) (tgt := 36) dX8_refusesPair_17 (by decide) (fun h17 => ?_) (fun h17 => ?_)
      · refine x_bipush (pc := 36) (v := (-2)) dX8_refusesPair_36 (by decide) ?_
        refine x_ri (pc := 38) dX8_refusesPair_38 rfl rfl ?_
        refine ⟨?_, rfl⟩
        first | (have z9 := b2_e0.mp h5; have z8 : ¬ b = 8 := h11; have z7 : ¬ b = 9 := h17; rw [if_neg z8, if_neg (fun z => z.elim z7 z9)]) | (have z9 := b2_e0.mp h33; have z8 : b = 8 := h23; rw [if_pos z8, if_neg z9])
      · refine x_iload_n (pc := 20) (i := 2) dX8_refusesPair_20 rfl rfl ?_
        refine x_bipush (pc := 21) (v := 8) dX8_refusesPair_21 (by decide) ?_
        refine x_icmp_ne (pc := 23) (tgt := 39) dX8_refusesPair_23 (by decide) (fun h23 => ?_) (fun h23 => ?_)
        · refine x_iload_n (pc := 39) (i := 2) dX8_refusesPair_39 rfl rfl ?_
          refine x_bipush (pc := 40) (v := 8) dX8_refusesPair_40 (by decide) ?_
          refine x_icmp_eq (pc := 42) (tgt := 57) dX8_refusesPair_42 (by decide) (fun h42 => ?_) (fun h42 => ?_)
          · refine x_iconst (pc := 57) (v := 0) dX8_refusesPair_57 (by decide) ?_
            refine x_ri (pc := 58) dX8_refusesPair_58 rfl rfl ?_
            first | (have z1 : b = 8 := h42; have z2 : ¬ b = 8 := h23; exact absurd z1 z2) | (have z1 : ¬ b = 8 := h42; have z2 : b = 8 := h23; exact absurd z2 z1) | (have z1 : b = 8 := h42; have z9 := b2_n0.mp h33; refine ⟨?_, rfl⟩; rw [if_pos z1, if_pos z9]) | (have z1 : ¬ b = 8 := h42; have z2 : b = 9 ∨ (0 ≤ b ∧ b < fld w 44 5) := (by first | exact Or.inr (b2_n0.mp h5) | exact Or.inl h17 | exact absurd h11 h42); refine ⟨?_, rfl⟩; rw [if_neg z1, if_pos z2]; first | (have z9 := b2_n0.mp h50; rw [if_pos z9]) | (have z9 := b2_e0.mp h50; rw [if_neg z9]))
          · refine x_aload_n (pc := 45) (i := 0) dX8_refusesPair_45 rfl rfl ?_
            refine x_iload_n (pc := 46) (i := 1) dX8_refusesPair_46 rfl rfl ?_
            refine x_vs (pc := 47) (As := [_]) rfl hS lX8_161 dX8_refusesPair_47 rfl rfl (Nat.le_of_ble_eq_true rfl) (c_X8_isWalker hS) ?_
            rintro _ _ ⟨rfl, hq⟩
            obtain rfl := hq.symm
            refine x_pushI ?_
            refine x_if_ne (pc := 50) (tgt := 57) dX8_refusesPair_50 (by decide) (fun h50 => ?_) (fun h50 => ?_)
            · refine x_iconst (pc := 57) (v := 0) dX8_refusesPair_57 (by decide) ?_
              refine x_ri (pc := 58) dX8_refusesPair_58 rfl rfl ?_
              first | (have z1 : b = 8 := h42; have z2 : ¬ b = 8 := h23; exact absurd z1 z2) | (have z1 : ¬ b = 8 := h42; have z2 : b = 8 := h23; exact absurd z2 z1) | (have z1 : b = 8 := h42; have z9 := b2_n0.mp h33; refine ⟨?_, rfl⟩; rw [if_pos z1, if_pos z9]) | (have z1 : ¬ b = 8 := h42; have z2 : b = 9 ∨ (0 ≤ b ∧ b < fld w 44 5) := (by first | exact Or.inr (b2_n0.mp h5) | exact Or.inl h17 | exact absurd h11 h42); refine ⟨?_, rfl⟩; rw [if_neg z1, if_pos z2]; first | (have z9 := b2_n0.mp h50; rw [if_pos z9]) | (have z9 := b2_e0.mp h50; rw [if_neg z9]))
            · refine x_iconst (pc := 53) (v := (-1)) dX8_refusesPair_53 (by decide) ?_
              refine x_goto (pc := 54) (tgt := 58) dX8_refusesPair_54 (by decide) ?_
              refine x_ri (pc := 58) dX8_refusesPair_58 rfl rfl ?_
              first | (have z1 : b = 8 := h42; have z2 : ¬ b = 8 := h23; exact absurd z1 z2) | (have z1 : ¬ b = 8 := h42; have z2 : b = 8 := h23; exact absurd z2 z1) | (have z1 : b = 8 := h42; have z9 := b2_n0.mp h33; refine ⟨?_, rfl⟩; rw [if_pos z1, if_pos z9]) | (have z1 : ¬ b = 8 := h42; have z2 : b = 9 ∨ (0 ≤ b ∧ b < fld w 44 5) := (by first | exact Or.inr (b2_n0.mp h5) | exact Or.inl h17 | exact absurd h11 h42); refine ⟨?_, rfl⟩; rw [if_neg z1, if_pos z2]; first | (have z9 := b2_n0.mp h50; rw [if_pos z9]) | (have z9 := b2_e0.mp h50; rw [if_neg z9]))
        · refine x_iload_n (pc := 26) (i := 1) dX8_refusesPair_26 rfl rfl ?_
          refine x_iconst (pc := 27) (v := 0) dX8_refusesPair_27 (by decide) ?_
          refine x_bipush (pc := 28) (v := 9) dX8_refusesPair_28 (by decide) ?_
          refine x_ss (pc := 30) (As := [_, _, _]) rfl lX8_88 dX8_refusesPair_30 rfl (Nat.le_of_ble_eq_true rfl) c_X8_within ?_
          rintro _ _ ⟨rfl, hq⟩
          obtain rfl := hq.symm
          refine x_pushI ?_
          refine x_if_ne (pc := 33) (tgt := 39) dX8_refusesPair_33 (by decide) (fun h33 => ?_) (fun h33 => ?_)
          · refine x_iload_n (pc := 39) (i := 2) dX8_refusesPair_39 rfl rfl ?_
            refine x_bipush (pc := 40) (v := 8) dX8_refusesPair_40 (by decide) ?_
            refine x_icmp_eq (pc := 42) (tgt := 57) dX8_refusesPair_42 (by decide) (fun h42 => ?_) (fun h42 => ?_)
            · refine x_iconst (pc := 57) (v := 0) dX8_refusesPair_57 (by decide) ?_
              refine x_ri (pc := 58) dX8_refusesPair_58 rfl rfl ?_
              first | (have z1 : b = 8 := h42; have z2 : ¬ b = 8 := h23; exact absurd z1 z2) | (have z1 : ¬ b = 8 := h42; have z2 : b = 8 := h23; exact absurd z2 z1) | (have z1 : b = 8 := h42; have z9 := b2_n0.mp h33; refine ⟨?_, rfl⟩; rw [if_pos z1, if_pos z9]) | (have z1 : ¬ b = 8 := h42; have z2 : b = 9 ∨ (0 ≤ b ∧ b < fld w 44 5) := (by first | exact Or.inr (b2_n0.mp h5) | exact Or.inl h17 | exact absurd h11 h42); refine ⟨?_, rfl⟩; rw [if_neg z1, if_pos z2]; first | (have z9 := b2_n0.mp h50; rw [if_pos z9]) | (have z9 := b2_e0.mp h50; rw [if_neg z9]))
            · refine x_aload_n (pc := 45) (i := 0) dX8_refusesPair_45 rfl rfl ?_
              refine x_iload_n (pc := 46) (i := 1) dX8_refusesPair_46 rfl rfl ?_
              refine x_vs (pc := 47) (As := [_]) rfl hS lX8_161 dX8_refusesPair_47 rfl rfl (Nat.le_of_ble_eq_true rfl) (c_X8_isWalker hS) ?_
              rintro _ _ ⟨rfl, hq⟩
              obtain rfl := hq.symm
              refine x_pushI ?_
              refine x_if_ne (pc := 50) (tgt := 57) dX8_refusesPair_50 (by decide) (fun h50 => ?_) (fun h50 => ?_)
              · refine x_iconst (pc := 57) (v := 0) dX8_refusesPair_57 (by decide) ?_
                refine x_ri (pc := 58) dX8_refusesPair_58 rfl rfl ?_
                first | (have z1 : b = 8 := h42; have z2 : ¬ b = 8 := h23; exact absurd z1 z2) | (have z1 : ¬ b = 8 := h42; have z2 : b = 8 := h23; exact absurd z2 z1) | (have z1 : b = 8 := h42; have z9 := b2_n0.mp h33; refine ⟨?_, rfl⟩; rw [if_pos z1, if_pos z9]) | (have z1 : ¬ b = 8 := h42; have z2 : b = 9 ∨ (0 ≤ b ∧ b < fld w 44 5) := (by first | exact Or.inr (b2_n0.mp h5) | exact Or.inl h17 | exact absurd h11 h42); refine ⟨?_, rfl⟩; rw [if_neg z1, if_pos z2]; first | (have z9 := b2_n0.mp h50; rw [if_pos z9]) | (have z9 := b2_e0.mp h50; rw [if_neg z9]))
              · refine x_iconst (pc := 53) (v := (-1)) dX8_refusesPair_53 (by decide) ?_
                refine x_goto (pc := 54) (tgt := 58) dX8_refusesPair_54 (by decide) ?_
                refine x_ri (pc := 58) dX8_refusesPair_58 rfl rfl ?_
                first | (have z1 : b = 8 := h42; have z2 : ¬ b = 8 := h23; exact absurd z1 z2) | (have z1 : ¬ b = 8 := h42; have z2 : b = 8 := h23; exact absurd z2 z1) | (have z1 : b = 8 := h42; have z9 := b2_n0.mp h33; refine ⟨?_, rfl⟩; rw [if_pos z1, if_pos z9]) | (have z1 : ¬ b = 8 := h42; have z2 : b = 9 ∨ (0 ≤ b ∧ b < fld w 44 5) := (by first | exact Or.inr (b2_n0.mp h5) | exact Or.inl h17 | exact absurd h11 h42); refine ⟨?_, rfl⟩; rw [if_neg z1, if_pos z2]; first | (have z9 := b2_n0.mp h50; rw [if_pos z9]) | (have z9 := b2_e0.mp h50; rw [if_neg z9]))
          · refine x_bipush (pc := 36) (v := (-2)) dX8_refusesPair_36 (by decide) ?_
            refine x_ri (pc := 38) dX8_refusesPair_38 rfl rfl ?_
            refine ⟨?_, rfl⟩
            first | (have z9 := b2_e0.mp h5; have z8 : ¬ b = 8 := h11; have z7 : ¬ b = 9 := h17; rw [if_neg z8, if_neg (fun z => z.elim z7 z9)]) | (have z9 := b2_e0.mp h33; have z8 : b = 8 := h23; rw [if_pos z8, if_neg z9])
/-- rows that are copied, cell by cell, told whole -/
def cpT (m : Nat) (X : Nat → Nat → Int32) (dst : Nat → Nat) (A : List Nat) (w0 w : mW) (c : Nat → Nat) : Prop := Shape w ∧ Gr A [] w0 w ∧ ∀ a, a < m → arr w (dst a) = tkI (c a) (X a) (arr w0 (dst a))
theorem cpT.zero {m : Nat} {X : Nat → Nat → Int32} {dst : Nat → Nat} {A : List Nat} {w0 : mW} (hS : Shape w0) {c : Nat → Nat} (hc : ∀ a, a < m → c a = 0) : cpT m X dst A w0 w0 c := ⟨hS, Gr.rf, fun a ha => by rw [hc a ha, tkI_0]⟩
theorem cpT.cg {m : Nat} {X : Nat → Nat → Int32} {dst : Nat → Nat} {A : List Nat} {w0 w : mW} {c c' : Nat → Nat} (h : cpT m X dst A w0 w c) (hc : ∀ a, a < m → c' a = c a) : cpT m X dst A w0 w c' := ⟨h.1, h.2.1, fun a ha => by rw [hc a ha]; exact h.2.2 a ha⟩
theorem cpT.st {m : Nat} {X : Nat → Nat → Int32} {dst : Nat → Nat} {A : List Nat} {w0 w : mW} {c : Nat → Nat} (h : cpT m X dst A w0 w c) (a D K : Nat) {x : Int32} {n : Nat} (ha : a < m) (hD : dst a = D) (hK : c a = K) (hx : X a K = x) (hs : mShp[D]? = some (.inl n)) (hA : D ∈ A) (hi : ∀ b, b < m → b ≠ a → dst b ≠ D) : cpT m X dst A w0 (setA w D (upd (arr w D) K x)) (fun b => if b = a then K + 1 else c b) := by
  refine ⟨h.1.stA _ _, h.2.1.stA hA _, fun b hb => ?_⟩
  show _ = tkI (if b = a then K + 1 else c b) _ _
  by_cases e : b = a
  · subst e
    rw [if_pos rfl, hD, arr_setA h.1 hs, ← hx, ← tkI_s, ← hD, h.2.2 b hb, hK]
  · rw [if_neg e, arr_setA_a (hi b hb e)]
    exact h.2.2 b hb
abbrev kSrc (a : Nat) : Nat := if a < 2 then 52 + a else 53 + a
abbrev kX (w : mW) (a j : Nat) : Int32 := arr w (kSrc a) j
abbrev kD (a : Nat) : Nat := 59 + a
theorem kD_ne {D : Nat} (a : Nat) (h : 59 + a = D) : ∀ b, b < 4 → b ≠ a → kD b ≠ D := by intro b _ h2; unfold kD; omega
abbrev pX (w : mW) (a j : Nat) : Int32 := arr w (59 + a) j
theorem kS_ne {D : Nat} (a : Nat) (h : kSrc a = D) : ∀ b, b < 4 → b ≠ a → kSrc b ≠ D := by intro b _ h2; rw [← h]; unfold kSrc; split <;> split <;> omega
theorem c_X8_keep {d : Nat} {w0 : mW} {nw : Nat} (hS0 : Shape w0) (tw : (fld w0 44 6).toInt = (nw : Int)) (hnw : nw ≤ 5) : mC d kX8_keep [.ref 44] w0 (fun r w' => r = none ∧ cpT 4 (kX w0) kD [59, 60, 61, 62] w0 w' (fun _ => nw)) := by
  have lp : ∀ (m k : Nat) (w : mW), cpT 4 (kX w0) kD [59, 60, 61, 62] w0 w (fun _ => k) → k ≤ nw → nw < k + m → mJ mX0 d kX8_keep (fun r w' => r = none ∧ cpT 4 (kX w0) kD [59, 60, 61, 62] w0 w' (fun _ => nw)) 2 [.ref 44, .int (nI k)] [] w := by
    intro m
    induction m with
    | zero => intro k w _ h1 h2; omega
    | succ m ih =>
      intro k w hC hk1 hk2
      have hS := hC.1
      have tk : (nI k).toInt = (k : Int) := nI_toInt (by omega)
      have t1 : (fld w 44 6).toInt = (nw : Int) := by rw [hC.2.1.2 44 6 (by decide)]; exact tw
      refine x_iload_n (pc := 2) (i := 1) dX8_keep_2 rfl rfl ?_
      refine x_aload_n (pc := 3) (i := 0) dX8_keep_3 rfl rfl ?_
      refine x_getI (pc := 4) hS fX8_95 dX8_keep_4 rfl rfl ?_
      refine x_icmp_ge (pc := 7) (tgt := 64) dX8_keep_7 (by decide) (fun h7 => ?_) (fun h7 => ?_)
      · refine x_rv (pc := 64) dX8_keep_64 rfl ?_
        exact ⟨rfl, by rw [show k = nw by (try simp only [b2_e0, b2_n0, Decidable.not_not] at *) <;> (try simp only [i_lt, i_le, i_eq, not_and, not_or, ne_eq, il_0, il_1, il_2, il_3, il_4, il_5, il_6, il_7, il_8, il_9, il_10, il_14, il_15, il_19, il_20, il_24, il_30, il_31, il_44, il_48, il_49, il_52, il_57, il_59, il_60, il_70, il_99, il_100, il_103, il_108, il_114, il_m1, il_m2, il_m3, il_m4, il_m9, il_m10, il_m100] at *) <;> omega] at hC; exact hC⟩
      · have hkn : k < nw := by (try simp only [b2_e0, b2_n0, Decidable.not_not] at *) <;> (try simp only [i_lt, i_le, i_eq, not_and, not_or, ne_eq, il_0, il_1, il_2, il_3, il_4, il_5, il_6, il_7, il_8, il_9, il_10, il_14, il_15, il_19, il_20, il_24, il_30, il_31, il_44, il_48, il_49, il_52, il_57, il_59, il_60, il_70, il_99, il_100, il_103, il_108, il_114, il_m1, il_m2, il_m3, il_m4, il_m9, il_m10, il_m100] at *) <;> omega
        refine x_aload_n (pc := 10) (i := 0) dX8_keep_10 rfl rfl ?_
        refine x_getR (pc := 11) hS fX8_52 dX8_keep_11 rfl rfl ?_
        refine x_iload_n (pc := 14) (i := 1) dX8_keep_14 rfl rfl ?_
        refine x_aload_n (pc := 15) (i := 0) dX8_keep_15 rfl rfl ?_
        refine x_getR (pc := 16) hS fX8_31 dX8_keep_16 rfl rfl ?_
        refine x_iload_n (pc := 19) (i := 1) dX8_keep_19 rfl rfl ?_
        refine x_aldN (pc := 20) hS dX8_keep_20 rfl (by omega) (by decide) ?_
        rw [hC.2.1.1 52 (by decide)]
        refine x_astN (pc := 21) hS dX8_keep_21 rfl (by omega) (by decide) (fun hS => ?_)
        have hC := hC.st 0 59 k (x := arr w0 52 k) (by decide) rfl rfl rfl rfl (by decide) (kD_ne 0 rfl)
        refine x_aload_n (pc := 22) (i := 0) dX8_keep_22 rfl rfl ?_
        refine x_getR (pc := 23) hS fX8_55 dX8_keep_23 rfl rfl ?_
        refine x_iload_n (pc := 26) (i := 1) dX8_keep_26 rfl rfl ?_
        refine x_aload_n (pc := 27) (i := 0) dX8_keep_27 rfl rfl ?_
        refine x_getR (pc := 28) hS fX8_34 dX8_keep_28 rfl rfl ?_
        refine x_iload_n (pc := 31) (i := 1) dX8_keep_31 rfl rfl ?_
        refine x_aldN (pc := 32) hS dX8_keep_32 rfl (by omega) (by decide) ?_
        rw [hC.2.1.1 53 (by decide)]
        refine x_astN (pc := 33) hS dX8_keep_33 rfl (by omega) (by decide) (fun hS => ?_)
        have hC := hC.st 1 60 k (x := arr w0 53 k) (by decide) rfl rfl rfl rfl (by decide) (kD_ne 1 rfl)
        refine x_aload_n (pc := 34) (i := 0) dX8_keep_34 rfl rfl ?_
        refine x_getR (pc := 35) hS fX8_58 dX8_keep_35 rfl rfl ?_
        refine x_iload_n (pc := 38) (i := 1) dX8_keep_38 rfl rfl ?_
        refine x_aload_n (pc := 39) (i := 0) dX8_keep_39 rfl rfl ?_
        refine x_getR (pc := 40) hS fX8_40 dX8_keep_40 rfl rfl ?_
        refine x_iload_n (pc := 43) (i := 1) dX8_keep_43 rfl rfl ?_
        refine x_aldN (pc := 44) hS dX8_keep_44 rfl (by omega) (by decide) ?_
        rw [hC.2.1.1 55 (by decide)]
        refine x_astN (pc := 45) hS dX8_keep_45 rfl (by omega) (by decide) (fun hS => ?_)
        have hC := hC.st 2 61 k (x := arr w0 55 k) (by decide) rfl rfl rfl rfl (by decide) (kD_ne 2 rfl)
        refine x_aload_n (pc := 46) (i := 0) dX8_keep_46 rfl rfl ?_
        refine x_getR (pc := 47) hS fX8_61 dX8_keep_47 rfl rfl ?_
        refine x_iload_n (pc := 50) (i := 1) dX8_keep_50 rfl rfl ?_
        refine x_aload_n (pc := 51) (i := 0) dX8_keep_51 rfl rfl ?_
        refine x_getR (pc := 52) hS fX8_43 dX8_keep_52 rfl rfl ?_
        refine x_iload_n (pc := 55) (i := 1) dX8_keep_55 rfl rfl ?_
        refine x_aldN (pc := 56) hS dX8_keep_56 rfl (by omega) (by decide) ?_
        rw [hC.2.1.1 56 (by decide)]
        refine x_astN (pc := 57) hS dX8_keep_57 rfl (by omega) (by decide) (fun hS => ?_)
        have hC := hC.st 3 62 k (x := arr w0 56 k) (by decide) rfl rfl rfl rfl (by decide) (kD_ne 3 rfl)
        refine x_iinc (pc := 58) (L' := [_, _]) dX8_keep_58 (by decide) rfl (by first | exact nI_inc _ | rfl) rfl ?_
        refine x_goto (pc := 61) (tgt := 2) dX8_keep_61 (by decide) ?_
        exact ih (k + 1) _ (hC.cg (fun a ha => by (repeat' split) <;> omega)) (by omega) (by omega)
  have hS := hS0
  refine mC.of (L := [_, _]) okX8_keep 1 rfl rfl ?_
  refine x_iconst (pc := 0) (v := 0) dX8_keep_0 (by decide) ?_
  refine x_istore_n (pc := 1) (i := 1) (L' := [_, _]) dX8_keep_1 rfl (by decide) rfl ?_
  exact lp (nw + 1) 0 _ (cpT.zero hS0 (fun a _ => rfl)) (by omega) (by omega)
theorem c_X8_putBack {d : Nat} {w0 : mW} {nw : Nat} (hS0 : Shape w0) (tw : (fld w0 44 6).toInt = (nw : Int)) (hnw : nw ≤ 5) : mC d kX8_putBack [.ref 44] w0 (fun r w' => r = none ∧ cpT 4 (pX w0) kSrc [52, 53, 55, 56] w0 w' (fun _ => nw)) := by
  have lp : ∀ (m k : Nat) (w : mW), cpT 4 (pX w0) kSrc [52, 53, 55, 56] w0 w (fun _ => k) → k ≤ nw → nw < k + m → mJ mX0 d kX8_putBack (fun r w' => r = none ∧ cpT 4 (pX w0) kSrc [52, 53, 55, 56] w0 w' (fun _ => nw)) 2 [.ref 44, .int (nI k)] [] w := by
    intro m
    induction m with
    | zero => intro k w _ h1 h2; omega
    | succ m ih =>
      intro k w hC hk1 hk2
      have hS := hC.1
      have tk : (nI k).toInt = (k : Int) := nI_toInt (by omega)
      have t1 : (fld w 44 6).toInt = (nw : Int) := by rw [hC.2.1.2 44 6 (by decide)]; exact tw
      refine x_iload_n (pc := 2) (i := 1) dX8_putBack_2 rfl rfl ?_
      refine x_aload_n (pc := 3) (i := 0) dX8_putBack_3 rfl rfl ?_
      refine x_getI (pc := 4) hS fX8_95 dX8_putBack_4 rfl rfl ?_
      refine x_icmp_ge (pc := 7) (tgt := 64) dX8_putBack_7 (by decide) (fun h7 => ?_) (fun h7 => ?_)
      · refine x_rv (pc := 64) dX8_putBack_64 rfl ?_
        exact ⟨rfl, by rw [show k = nw by (try simp only [b2_e0, b2_n0, Decidable.not_not] at *) <;> (try simp only [i_lt, i_le, i_eq, not_and, not_or, ne_eq, il_0, il_1, il_2, il_3, il_4, il_5, il_6, il_7, il_8, il_9, il_10, il_14, il_15, il_19, il_20, il_24, il_30, il_31, il_44, il_48, il_49, il_52, il_57, il_59, il_60, il_70, il_99, il_100, il_103, il_108, il_114, il_m1, il_m2, il_m3, il_m4, il_m9, il_m10, il_m100] at *) <;> omega] at hC; exact hC⟩
      · have hkn : k < nw := by (try simp only [b2_e0, b2_n0, Decidable.not_not] at *) <;> (try simp only [i_lt, i_le, i_eq, not_and, not_or, ne_eq, il_0, il_1, il_2, il_3, il_4, il_5, il_6, il_7, il_8, il_9, il_10, il_14, il_15, il_19, il_20, il_24, il_30, il_31, il_44, il_48, il_49, il_52, il_57, il_59, il_60, il_70, il_99, il_100, il_103, il_108, il_114, il_m1, il_m2, il_m3, il_m4, il_m9, il_m10, il_m100] at *) <;> omega
        refine x_aload_n (pc := 10) (i := 0) dX8_putBack_10 rfl rfl ?_
        refine x_getR (pc := 11) hS fX8_31 dX8_putBack_11 rfl rfl ?_
        refine x_iload_n (pc := 14) (i := 1) dX8_putBack_14 rfl rfl ?_
        refine x_aload_n (pc := 15) (i := 0) dX8_putBack_15 rfl rfl ?_
        refine x_getR (pc := 16) hS fX8_52 dX8_putBack_16 rfl rfl ?_
        refine x_iload_n (pc := 19) (i := 1) dX8_putBack_19 rfl rfl ?_
        refine x_aldN (pc := 20) hS dX8_putBack_20 rfl (by omega) (by decide) ?_
        rw [hC.2.1.1 59 (by decide)]
        refine x_astN (pc := 21) hS dX8_putBack_21 rfl (by omega) (by decide) (fun hS => ?_)
        have hC := hC.st 0 52 k (x := arr w0 59 k) (by decide) rfl rfl rfl rfl (by decide) (kS_ne 0 rfl)
        refine x_aload_n (pc := 22) (i := 0) dX8_putBack_22 rfl rfl ?_
        refine x_getR (pc := 23) hS fX8_34 dX8_putBack_23 rfl rfl ?_
        refine x_iload_n (pc := 26) (i := 1) dX8_putBack_26 rfl rfl ?_
        refine x_aload_n (pc := 27) (i := 0) dX8_putBack_27 rfl rfl ?_
        refine x_getR (pc := 28) hS fX8_55 dX8_putBack_28 rfl rfl ?_
        refine x_iload_n (pc := 31) (i := 1) dX8_putBack_31 rfl rfl ?_
        refine x_aldN (pc := 32) hS dX8_putBack_32 rfl (by omega) (by decide) ?_
        rw [hC.2.1.1 60 (by decide)]
        refine x_astN (pc := 33) hS dX8_putBack_33 rfl (by omega) (by decide) (fun hS => ?_)
        have hC := hC.st 1 53 k (x := arr w0 60 k) (by decide) rfl rfl rfl rfl (by decide) (kS_ne 1 rfl)
        refine x_aload_n (pc := 34) (i := 0) dX8_putBack_34 rfl rfl ?_
        refine x_getR (pc := 35) hS fX8_40 dX8_putBack_35 rfl rfl ?_
        refine x_iload_n (pc := 38) (i := 1) dX8_putBack_38 rfl rfl ?_
        refine x_aload_n (pc := 39) (i := 0) dX8_putBack_39 rfl rfl ?_
        refine x_getR (pc := 40) hS fX8_58 dX8_putBack_40 rfl rfl ?_
        refine x_iload_n (pc := 43) (i := 1) dX8_putBack_43 rfl rfl ?_
        refine x_aldN (pc := 44) hS dX8_putBack_44 rfl (by omega) (by decide) ?_
        rw [hC.2.1.1 61 (by decide)]
        refine x_astN (pc := 45) hS dX8_putBack_45 rfl (by omega) (by decide) (fun hS => ?_)
        have hC := hC.st 2 55 k (x := arr w0 61 k) (by decide) rfl rfl rfl rfl (by decide) (kS_ne 2 rfl)
        refine x_aload_n (pc := 46) (i := 0) dX8_putBack_46 rfl rfl ?_
        refine x_getR (pc := 47) hS fX8_43 dX8_putBack_47 rfl rfl ?_
        refine x_iload_n (pc := 50) (i := 1) dX8_putBack_50 rfl rfl ?_
        refine x_aload_n (pc := 51) (i := 0) dX8_putBack_51 rfl rfl ?_
        refine x_getR (pc := 52) hS fX8_61 dX8_putBack_52 rfl rfl ?_
        refine x_iload_n (pc := 55) (i := 1) dX8_putBack_55 rfl rfl ?_
        refine x_aldN (pc := 56) hS dX8_putBack_56 rfl (by omega) (by decide) ?_
        rw [hC.2.1.1 62 (by decide)]
        refine x_astN (pc := 57) hS dX8_putBack_57 rfl (by omega) (by decide) (fun hS => ?_)
        have hC := hC.st 3 56 k (x := arr w0 62 k) (by decide) rfl rfl rfl rfl (by decide) (kS_ne 3 rfl)
        refine x_iinc (pc := 58) (L' := [_, _]) dX8_putBack_58 (by decide) rfl (by first | exact nI_inc _ | rfl) rfl ?_
        refine x_goto (pc := 61) (tgt := 2) dX8_putBack_61 (by decide) ?_
        exact ih (k + 1) _ (hC.cg (fun a ha => by (repeat' split) <;> omega)) (by omega) (by omega)
  have hS := hS0
  refine mC.of (L := [_, _]) okX8_putBack 1 rfl rfl ?_
  refine x_iconst (pc := 0) (v := 0) dX8_putBack_0 (by decide) ?_
  refine x_istore_n (pc := 1) (i := 1) (L' := [_, _]) dX8_putBack_1 rfl (by decide) rfl ?_
  exact lp (nw + 1) 0 _ (cpT.zero hS0 (fun a _ => rfl)) (by omega) (by omega)
def mS (w0 : mW) (s : S5) (w : mW) : Prop := Shape w ∧ Gr [52, 53, 55, 56] [(44, 26)] w0 w ∧ arr w 52 = s.1 ∧ arr w 53 = s.2.1 ∧ arr w 55 = s.2.2.1 ∧ arr w 56 = s.2.2.2.1 ∧ fld w 44 26 = s.2.2.2.2
abbrev sM (w0 : mW) (nw : Nat) (a b : Int32) (s : S5) : Option S5 := sSt (fld w0 44 5) (fld w0 44 6) nw (arr w0 48) (arr w0 49) (arr w0 50) (arr w0 51) (arr w0 54) a b s
/-- behind t nights -/
abbrev sNt (NB : Int32) (pe : Nat → Int32) (nw : Nat) (s : S5) (t : Nat) : S5 := ((nSt NB pe nw t (s.1, s.2.2.1, s.2.2.2.1)).1, s.2.1, (nSt NB pe nw t (s.1, s.2.2.1, s.2.2.2.1)).2.1, (nSt NB pe nw t (s.1, s.2.2.1, s.2.2.2.1)).2.2, s.2.2.2.2 + nI (nOut NB pe nw t (s.1, s.2.2.1, s.2.2.2.1)))
theorem mS.z {w0 w : mW} {s : S5} {NB : Int32} {pe : Nat → Int32} {nw : Nat} (h : mS w0 s w) : mS w0 (sNt NB pe nw s 0) w := by
  obtain ⟨a, b, c, d, e, f, g⟩ := h
  exact ⟨a, b, c, d, e, f, by rw [g]; exact (Int32.add_zero _).symm⟩
theorem mS.night {w0 w w1 : mW} {s : S5} {nw t : Nat} {x : Int32} (h : mS w0 (sNt (fld w0 44 5) (arr w0 50) nw s t) w) (hN : nAt (fld w 44 5) 50 52 55 56 w nw w1) (hx : x = fld w 44 26 + nI (cntN (outP (fld w 44 5) (arr w 50) (arr w 52) (arr w 55)) nw)) : mS w0 (sNt (fld w0 44 5) (arr w0 50) nw s (t + 1)) (setF w1 44 26 x) := by
  obtain ⟨hS, g, x52, x53, x55, x56, xp⟩ := h
  obtain ⟨hS1, hF, n52, n55, n56⟩ := hN
  have g1 : Gr [52, 55, 56] [] w w1 := hF.gr hS hS1 (by intro a ha; simp at ha; rcases ha with h | h | h <;> subst h <;> exact ⟨_, rfl⟩)
  rw [g.2 44 5 (by decide), g.1 50 (by decide)] at n52 n55 n56 hx
  rw [x52, x55] at n52 n55 n56 hx
  rw [x56] at n56
  refine ⟨hS1.stF rfl rfl _, (g.tr (g1.up (by decide) (by decide))).stF (by decide) _, ?_, ?_, ?_, ?_, ?_⟩
  · rw [arr_setF, n52]; rfl
  · rw [arr_setF, g1.1 53 (by decide), x53]
  · rw [arr_setF, n55]; rfl
  · rw [arr_setF, n56]; rfl
  · rw [fld_setF hS1 rfl rfl, hx, xp]
    show _ + nI _ + nI _ = _ + nI (_ + _)
    rw [Int32.add_assoc, nI_add]
theorem does_9 {w0 w : mW} {s : S5} {nb nw v : Nat} {b : Int32} (hX : mS w0 s w) (tb : (fld w0 44 5).toInt = (nb : Int)) (hnb : nb ≤ 5) (hnw : nw ≤ 5) (hv : v < nw) (hW : WalOK nb nw s.1 s.2.1 (arr w0 54) s.2.2.1) (hb : b = 9) {c : Int32} (hc : (arr w 55 v = -9 ∧ c = 0) ∨ (¬ arr w 55 v = -9 ∧ c = 1)) : sPost (sM w0 nw (nI v) b s) (mS w0) s (some (.int c)) (setA w 55 (upd (arr w 55) v (-9))) := by
  obtain ⟨hS, g, x52, x53, x55, x56, xp⟩ := id hX
  refine ⟨c, rfl, ?_⟩
  have cv : (nI v).toNatClampNeg = v := nI_clamp (by omega)
  rcases hc with ⟨h, rfl⟩ | ⟨h, rfl⟩
  · refine Or.inl ⟨rfl, ?_, ?_⟩
    · unfold sM sSt
      rcases lo_or hW tb hnb hv with q | q
      · rw [if_pos hb, cv, if_neg q.2]
      · rw [x55] at h; exact absurd h q.1
    · rw [show upd (arr w 55) v (-9) = arr w 55 from by rw [← h]; exact upd_self _ _, setA_self hS rfl]; exact hX
  · refine Or.inr ⟨rfl, (s.1, s.2.1, upd s.2.2.1 v (-9), s.2.2.2.1, s.2.2.2.2), ?_, ?_⟩
    · unfold sM sSt
      rcases lo_or hW tb hnb hv with q | q
      · rw [x55] at h; exact absurd q.1 h
      · rw [if_pos hb, cv, if_pos q.2]
    · exact ⟨hS.stA _ _, g.stA (by decide) _, by rw [arr_setA_a (by decide)]; exact x52, by rw [arr_setA_a (by decide)]; exact x53, by rw [arr_setA hS rfl, x55], by rw [arr_setA_a (by decide)]; exact x56, by rw [fld_setA]; exact xp⟩
theorem does_e {w0 w w1 : mW} {s : S5} {nw v b : Nat} (hX : mS w0 s w) (h9 : ¬ nI b = 9) (h8 : ¬ nI b = 8) (hv : v < 5) (hb : b < 5) (hq : w1 = if canE (fld w 44 5) (fld w 44 6) nw (arr w 48) (arr w 49) (arr w 50) (arr w 51) (arr w 52) (arr w 53) (arr w 54) (arr w 55) (nI v) (nI b) then setA (setA w 55 (upd (arr w 55) v (nI b))) 53 (upd (arr w 53) v (arr w 51 b)) else w) : sPost (sM w0 nw (nI v) (nI b) s) (mS w0) s (some (.int (b2 (canE (fld w 44 5) (fld w 44 6) nw (arr w 48) (arr w 49) (arr w 50) (arr w 51) (arr w 52) (arr w 53) (arr w 54) (arr w 55) (nI v) (nI b))))) w1 := by
  obtain ⟨hS, g, x52, x53, x55, x56, xp⟩ := id hX
  have cv : (nI v).toNatClampNeg = v := nI_clamp (by omega)
  have cb : (nI b).toNatClampNeg = b := nI_clamp (by omega)
  refine ⟨_, rfl, ?_⟩
  rw [g.2 44 5 (by decide), g.2 44 6 (by decide), g.1 48 (by decide), g.1 49 (by decide), g.1 50 (by decide), g.1 51 (by decide), g.1 54 (by decide), x52, x53, x55] at hq ⊢
  by_cases h : canE (fld w0 44 5) (fld w0 44 6) nw (arr w0 48) (arr w0 49) (arr w0 50) (arr w0 51) s.1 s.2.1 (arr w0 54) s.2.2.1 (nI v) (nI b)
  · rw [if_pos h] at hq
    refine Or.inr ⟨b2_t h, (s.1, upd s.2.1 v (arr w0 51 b), upd s.2.2.1 v (nI b), s.2.2.2.1, s.2.2.2.2), by unfold sM sSt; rw [if_neg h9, if_neg h8, if_pos h, cv, cb], ?_⟩
    rw [hq]
    exact ⟨(hS.stA _ _).stA _ _, (g.stA (by decide) _).stA (by decide) _, by rw [arr_setA_a (by decide), arr_setA_a (by decide)]; exact x52, by rw [arr_setA (hS.stA _ _) rfl], by rw [arr_setA_a (by decide), arr_setA hS rfl], by rw [arr_setA_a (by decide), arr_setA_a (by decide)]; exact x56, by rw [fld_setA, fld_setA]; exact xp⟩
  · rw [if_neg h] at hq
    subst hq
    exact Or.inl ⟨b2_f h, by unfold sM sSt; rw [if_neg h9, if_neg h8, if_neg h], hX⟩
theorem c_X8_does {d : Nat} {w0 w : mW} {s : S5} {nb nw : Nat} {a b : Int32} (hX : mS w0 s w) (tb : (fld w0 44 5).toInt = (nb : Int)) (hnb : nb ≤ 5) (tw : (fld w0 44 6).toInt = (nw : Int)) (hnw : nw ≤ 5) (hB : BarOK nb (arr w0 48) (arr w0 49) (arr w0 50) (arr w0 51)) (hW : WalOK nb nw s.1 s.2.1 (arr w0 54) s.2.2.1) (hg : gP (fld w0 44 5) (fld w0 44 6) a b) : mC (d + 3) kX8_does [.ref 44, .int a, .int b] w (sPost (sM w0 nw a b s) (mS w0) s) := by
  have hS := hX.1
  have tb' : (fld w 44 5).toInt = (nb : Int) := by rw [hX.2.1.2 44 5 (by decide)]; exact tb
  have tw' : (fld w 44 6).toInt = (nw : Int) := by rw [hX.2.1.2 44 6 (by decide)]; exact tw
  have hpe : ∀ j, j < nb → 0 ≤ (arr w0 50 j).toInt ∧ (arr w0 50 j).toInt ≤ 9 := fun j hj => (hB j hj).2.2.1
  by_cases h8 : b = 8
  · obtain ⟨N, hN9, rfl⟩ := hg.n h8
    have tN : (nI N).toInt = (N : Int) := nI_toInt (by omega)
    have lp : ∀ (m t : Nat) (w2 : mW), mS w0 (sNt (fld w0 44 5) (arr w0 50) nw s t) w2 → t ≤ N → N < t + m → mJ mX0 (d + 3) kX8_does (sPost (sM w0 nw (nI N) b s) (mS w0) s) 8 [.ref 44, .int (nI N), .int b, .int (nI t)] [] w2 := by
      intro m
      induction m with
      | zero => intro t w2 _ h1 h2; omega
      | succ m ih =>
        intro t w2 hX2 ht1 ht2
        have hS := hX2.1
        have tt : (nI t).toInt = (t : Int) := nI_toInt (by omega)
        have tb2 : (fld w2 44 5).toInt = (nb : Int) := by rw [hX2.2.1.2 44 5 (by decide)]; exact tb
        have tw2 : (fld w2 44 6).toInt = (nw : Int) := by rw [hX2.2.1.2 44 6 (by decide)]; exact tw
        have hW2 := nSt_ok (re := arr w0 54) (pl := s.2.1) tb hnb hpe (s.1, s.2.2.1, s.2.2.2.1) hW t
        have hlo2 : ∀ j, j < nw → arr w2 55 j = -9 ∨ inB (fld w2 44 5) (arr w2 55) j := by
          rw [hX2.2.2.2.2.1, hX2.2.1.2 44 5 (by decide)]
          exact fun j hj => (lo_or hW2 tb hnb hj).elim (fun q => Or.inl q.1) (fun q => Or.inr q.2)
        refine x_iload_n (pc := 8) (i := 3) dX8_does_8 rfl rfl ?_
        refine x_iload_n (pc := 9) (i := 1) dX8_does_9 rfl rfl ?_
        refine x_icmp_ge (pc := 10) (tgt := 32) dX8_does_10 (by decide) (fun h10 => ?_) (fun h10 => ?_)
        · refine x_iconst (pc := 32) (v := 1) dX8_does_32 (by decide) ?_
          refine x_ri (pc := 33) dX8_does_33 rfl rfl ?_
          have e := show t = N by (try simp only [b2_e0, b2_n0, Decidable.not_not] at *) <;> (try simp only [i_lt, i_le, i_eq, not_and, not_or, ne_eq, il_0, il_1, il_2, il_3, il_4, il_5, il_6, il_7, il_8, il_9, il_10, il_14, il_15, il_19, il_20, il_24, il_30, il_31, il_44, il_48, il_49, il_52, il_57, il_59, il_60, il_70, il_99, il_100, il_103, il_108, il_114, il_m1, il_m2, il_m3, il_m4, il_m9, il_m10, il_m100] at *) <;> omega
          subst e
          exact ⟨1, rfl, Or.inr ⟨rfl, _, by unfold sM sSt; rw [if_neg (by rw [h8]; decide), if_pos h8, nI_clamp (by omega)], hX2⟩⟩
        · refine x_aload_n (pc := 13) (i := 0) dX8_does_13 rfl rfl ?_
          refine x_dup (pc := 14) dX8_does_14 rfl ?_
          refine x_getI (pc := 15) hS fX8_184 dX8_does_15 rfl rfl ?_
          refine x_aload_n (pc := 18) (i := 0) dX8_does_18 rfl rfl ?_
          refine x_vs (pc := 19) (As := []) rfl hS lX8_180 dX8_does_19 rfl rfl (Nat.le_of_ble_eq_true rfl) (c_X8_goNight hS tb2 hnb tw2 hnw hlo2) ?_
          rintro _ w3 ⟨rfl, hN⟩
          have hS := hN.1
          refine x_pushI ?_
          refine x_iadd (pc := 22) dX8_does_22 ?_
          refine x_putI (pc := 23) hS fX8_184 dX8_does_23 rfl rfl rfl rfl (fun hS => ?_)
          refine x_iinc (pc := 26) (L' := [_, _, _, _]) dX8_does_26 (by decide) rfl (by first | exact nI_inc _ | rfl) rfl ?_
          refine x_goto (pc := 29) (tgt := 8) dX8_does_29 (by decide) ?_
          exact ih (t + 1) _ (hX2.night hN rfl) (by (try simp only [b2_e0, b2_n0, Decidable.not_not] at *) <;> (try simp only [i_lt, i_le, i_eq, not_and, not_or, ne_eq, il_0, il_1, il_2, il_3, il_4, il_5, il_6, il_7, il_8, il_9, il_10, il_14, il_15, il_19, il_20, il_24, il_30, il_31, il_44, il_48, il_49, il_52, il_57, il_59, il_60, il_70, il_99, il_100, il_103, il_108, il_114, il_m1, il_m2, il_m3, il_m4, il_m9, il_m10, il_m100] at *) <;> omega) (by omega)
    refine mC.of (L := [_, _, _, _]) okX8_does 1 rfl rfl ?_
    refine x_iload_n (pc := 0) (i := 2) dX8_does_0 rfl rfl ?_
    refine x_bipush (pc := 1) (v := 8) dX8_does_1 (by decide) ?_
    refine x_icmp_ne (pc := 3) (tgt := 34) dX8_does_3 (by decide) (fun h3 => absurd h3 (by exact not_not_intro h8)) (fun h3 => ?_)
    refine x_iconst (pc := 6) (v := 0) dX8_does_6 (by decide) ?_
    refine x_istore_n (pc := 7) (i := 3) (L' := [_, _, _, _]) dX8_does_7 rfl (by decide) rfl ?_
    exact lp (N + 1) 0 _ hX.z (by omega) (by omega)
  · obtain ⟨w1, w2⟩ := hg.w h8
    obtain ⟨v, hv, rfl⟩ := in_nI tw (by omega) w2
    refine mC.of (L := [_, _, _, _]) okX8_does 1 rfl rfl ?_
    refine x_iload_n (pc := 0) (i := 2) dX8_does_0 rfl rfl ?_
    refine x_bipush (pc := 1) (v := 8) dX8_does_1 (by decide) ?_
    refine x_icmp_ne (pc := 3) (tgt := 34) dX8_does_3 (by decide) (fun h3 => ?_) (fun h3 => absurd h3 (by exact h8))
    refine x_iload_n (pc := 34) (i := 2) dX8_does_34 rfl rfl ?_
    refine x_bipush (pc := 35) (v := 9) dX8_does_35 (by decide) ?_
    refine x_icmp_ne (pc := 37) (tgt := 67) dX8_does_37 (by decide) (fun h37 => ?_) (fun h37 => ?_)
    · obtain ⟨j, hbb, rfl⟩ := in_nI tb (by omega) (w1.resolve_left h37)
      refine x_aload_n (pc := 67) (i := 0) dX8_does_67 rfl rfl ?_
      refine x_iload_n (pc := 68) (i := 1) dX8_does_68 rfl rfl ?_
      refine x_iload_n (pc := 69) (i := 2) dX8_does_69 rfl rfl ?_
      refine x_vs (pc := 70) (As := [_, _]) rfl hS lX8_177 dX8_does_70 rfl rfl (Nat.le_of_ble_eq_true rfl) (c_X8_doLodge hS tb' hnb tw' hnw hv hbb (by rw [hX.2.1.1 48 (by decide)]; exact (hB j hbb).1) (by rw [hX.2.2.2.1]; exact (hW v hv).2.1) (by rw [hX.2.1.1 51 (by decide)]; exact (hB j hbb).2.2.2) (by rw [hX.2.2.2.2.1, hX.2.1.2 44 5 (by decide)]; exact (lo_or hW tb hnb hv).elim (fun q => Or.inl q.1) (fun q => Or.inr q.2))) ?_
      rintro _ w1 ⟨rfl, hq⟩
      refine x_pushI ?_
      refine x_ri (pc := 73) dX8_does_73 rfl nar_b2 ?_
      exact does_e hX h37 h8 (by omega) (by omega) hq
    · refine x_aload_n (pc := 40) (i := 0) dX8_does_40 rfl rfl ?_
      refine x_getR (pc := 41) hS fX8_40 dX8_does_41 rfl rfl ?_
      refine x_iload_n (pc := 44) (i := 1) dX8_does_44 rfl rfl ?_
      refine x_aldN (pc := 45) hS dX8_does_45 rfl (by omega) (by decide) ?_
      refine x_bipush (pc := 46) (v := (-9)) dX8_does_46 (by decide) ?_
      refine x_icmp_eq (pc := 48) (tgt := 55) dX8_does_48 (by decide) (fun h48 => ?_) (fun h48 => ?_)
      · refine x_iconst (pc := 55) (v := 0) dX8_does_55 (by decide) ?_
        refine x_istore_n (pc := 56) (i := 3) (L' := [_, _, _, _]) dX8_does_56 rfl (by decide) rfl ?_
        refine x_aload_n (pc := 57) (i := 0) dX8_does_57 rfl rfl ?_
        refine x_getR (pc := 58) hS fX8_40 dX8_does_58 rfl rfl ?_
        refine x_iload_n (pc := 61) (i := 1) dX8_does_61 rfl rfl ?_
        refine x_bipush (pc := 62) (v := (-9)) dX8_does_62 (by decide) ?_
        refine x_astN (pc := 64) hS dX8_does_64 rfl (by omega) (by decide) (fun hS => ?_)
        refine x_iload_n (pc := 65) (i := 3) dX8_does_65 rfl rfl ?_
        refine x_ri (pc := 66) dX8_does_66 rfl rfl ?_
        refine does_9 hX tb hnb hnw hv hW h37 ?_
        first | exact Or.inl ⟨h48, rfl⟩ | exact Or.inr ⟨h48, rfl⟩
      · refine x_iconst (pc := 51) (v := 1) dX8_does_51 (by decide) ?_
        refine x_goto (pc := 52) (tgt := 56) dX8_does_52 (by decide) ?_
        refine x_istore_n (pc := 56) (i := 3) (L' := [_, _, _, _]) dX8_does_56 rfl (by decide) rfl ?_
        refine x_aload_n (pc := 57) (i := 0) dX8_does_57 rfl rfl ?_
        refine x_getR (pc := 58) hS fX8_40 dX8_does_58 rfl rfl ?_
        refine x_iload_n (pc := 61) (i := 1) dX8_does_61 rfl rfl ?_
        refine x_bipush (pc := 62) (v := (-9)) dX8_does_62 (by decide) ?_
        refine x_astN (pc := 64) hS dX8_does_64 rfl (by omega) (by decide) (fun hS => ?_)
        refine x_iload_n (pc := 65) (i := 3) dX8_does_65 rfl rfl ?_
        refine x_ri (pc := 66) dX8_does_66 rfl rfl ?_
        refine does_9 hX tb hnb hnw hv hW h37 ?_
        first | exact Or.inl ⟨h48, rfl⟩ | exact Or.inr ⟨h48, rfl⟩

