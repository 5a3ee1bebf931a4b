/-! THE FIRST WORLD: both new objects -/
theorem kShape : Shape kWf := by
  intro i s h
  match i, h with
  | 0, h => cases h; rw [kWf_0]; exact ⟨rfl, rfl, rfl, rfl, rfl, rfl, rfl, rfl, ⟨_, rfl⟩, ⟨_, rfl⟩, trivial⟩
  | 1, h => cases h; rw [kWf_1]; exact ⟨rfl, rfl, rfl, rfl, trivial⟩
  | 2, h => cases h; rw [kWf_2]; exact rfl
  | 3, h => cases h; rw [kWf_3]; exact rfl
  | 4, h => cases h; rw [kWf_4]; exact rfl
  | 5, h => cases h; rw [kWf_5]; exact ⟨rfl, rfl, ⟨_, rfl⟩, ⟨_, rfl⟩, ⟨_, rfl⟩, trivial⟩
  | 6, h => cases h; rw [kWf_6]; exact rfl
  | 7, h => cases h; rw [kWf_7]; exact ⟨rfl, ⟨_, rfl⟩, ⟨_, rfl⟩, ⟨_, rfl⟩, rfl, rfl, rfl, rfl, rfl, rfl, rfl, rfl, rfl, trivial⟩
  | 8, h => cases h; rw [kWf_8]; exact rfl
  | 9, h => cases h; rw [kWf_9]; exact rfl
  | 10, h => cases h; rw [kWf_10]; exact rfl
  | 11, h => cases h; rw [kWf_11]; exact rfl
  | 12, h => cases h; rw [kWf_12]; exact rfl
  | 13, h => cases h; rw [kWf_13]; exact rfl
  | 14, h => cases h; rw [kWf_14]; exact rfl
  | 15, h => cases h; rw [kWf_15]; exact rfl
  | 16, h => cases h; rw [kWf_16]; exact rfl
  | 17, h => cases h; rw [kWf_17]; exact ⟨rfl, rfl, rfl, rfl, ⟨_, rfl⟩, ⟨_, rfl⟩, ⟨_, rfl⟩, trivial⟩
  | 18, h => cases h; rw [kWf_18]; exact ⟨rfl, ⟨_, rfl⟩, ⟨_, rfl⟩, ⟨_, rfl⟩, rfl, rfl, rfl, rfl, rfl, rfl, rfl, rfl, rfl, trivial⟩
  | 19, h => cases h; rw [kWf_19]; exact rfl
  | 20, h => cases h; rw [kWf_20]; exact rfl
  | 21, h => cases h; rw [kWf_21]; exact rfl
  | 22, h => cases h; rw [kWf_22]; exact rfl
  | 23, h => cases h; rw [kWf_23]; exact rfl
  | 24, h => cases h; rw [kWf_24]; exact rfl
  | 25, h => cases h; rw [kWf_25]; exact rfl
  | 26, h => cases h; rw [kWf_26]; exact rfl
  | 27, h => cases h; rw [kWf_27]; exact rfl
  | 28, h => cases h; rw [kWf_28]; exact rfl
  | 29, h => cases h; rw [kWf_29]; exact rfl
  | 30, h => cases h; rw [kWf_30]; exact ⟨rfl, rfl, rfl, rfl, ⟨_, rfl⟩, ⟨_, rfl⟩, trivial⟩
  | 31, h => cases h; rw [kWf_31]; exact rfl
  | 32, h => cases h; rw [kWf_32]; exact rfl
  | 33, h => cases h; rw [kWf_33]; exact rfl
  | 34, h => cases h; rw [kWf_34]; exact ⟨rfl, rfl, rfl, rfl, rfl, rfl, ⟨_, rfl⟩, ⟨_, rfl⟩, trivial⟩
  | 35, h => cases h; rw [kWf_35]; exact rfl
  | 36, h => cases h; rw [kWf_36]; exact rfl
  | 37, h => cases h; rw [kWf_37]; exact rfl
  | 38, h => cases h; rw [kWf_38]; exact rfl
  | 39, h => cases h; rw [kWf_39]; exact rfl
  | 40, h => cases h; rw [kWf_40]; exact ⟨rfl, rfl, rfl, rfl, ⟨_, rfl⟩, trivial⟩
  | 41, h => cases h; rw [kWf_41]; exact rfl
  | 42, h => cases h; rw [kWf_42]; exact rfl
  | 43, h => cases h; rw [kWf_43]; exact rfl
  | 44, h => cases h; rw [kWf_44]; exact ⟨rfl, ⟨_, rfl⟩, ⟨_, rfl⟩, rfl, rfl, rfl, ⟨_, rfl⟩, ⟨_, rfl⟩, ⟨_, rfl⟩, rfl, rfl, rfl, rfl, rfl, rfl, rfl, rfl, rfl, ⟨_, rfl⟩, ⟨_, rfl⟩, ⟨_, rfl⟩, rfl, rfl, rfl, rfl, rfl, rfl, ⟨_, rfl⟩, rfl, rfl, ⟨_, rfl⟩, ⟨_, rfl⟩, rfl, ⟨_, rfl⟩, rfl, rfl, rfl, trivial⟩
  | 45, h => cases h; rw [kWf_45]; exact rfl
  | 46, h => cases h; rw [kWf_46]; exact rfl
  | 47, h => cases h; rw [kWf_47]; exact rfl
  | 48, h => cases h; rw [kWf_48]; exact rfl
  | 49, h => cases h; rw [kWf_49]; exact rfl
  | 50, h => cases h; rw [kWf_50]; exact rfl
  | 51, h => cases h; rw [kWf_51]; exact rfl
  | 52, h => cases h; rw [kWf_52]; exact rfl
  | 53, h => cases h; rw [kWf_53]; exact rfl
  | 54, h => cases h; rw [kWf_54]; exact rfl
  | 55, h => cases h; rw [kWf_55]; exact rfl
  | 56, h => cases h; rw [kWf_56]; exact rfl
  | 57, h => cases h; rw [kWf_57]; exact rfl
  | 58, h => cases h; rw [kWf_58]; exact rfl
  | 59, h => cases h; rw [kWf_59]; exact rfl
  | 60, h => cases h; rw [kWf_60]; exact rfl
  | 61, h => cases h; rw [kWf_61]; exact rfl
  | 62, h => cases h; rw [kWf_62]; exact rfl
  | 63, h => cases h; rw [kWf_63]; exact rfl
  | 64, h => cases h; rw [kWf_64]; exact rfl
  | 65, h => cases h; rw [kWf_65]; exact rfl
  | 66, h => cases h; rw [kWf_66]; exact rfl
  | 67, h => cases h; rw [kWf_67]; exact rfl
  | 68, h => cases h; rw [kWf_68]; exact rfl
  | n + 69, h => simp [mShp] at h
theorem kWa_2 : arr kWf 2 = upd (upd (upd (upd (fun _ => 0) 0 (-1)) 1 (-1)) 2 (-1)) 3 (-1) := by unfold arr; rw [kWf_2]
theorem kWa_3 : arr kWf 3 = fun _ => 0 := by unfold arr; rw [kWf_3]
theorem kWa_4 : arr kWf 4 = fun _ => 0 := by unfold arr; rw [kWf_4]
theorem kWa_8 : arr kWf 8 = fun _ => 0 := by unfold arr; rw [kWf_8]
theorem kWa_9 : arr kWf 9 = fun _ => 0 := by unfold arr; rw [kWf_9]
theorem kWa_10 : arr kWf 10 = fun _ => 0 := by unfold arr; rw [kWf_10]
theorem kWa_11 : arr kWf 11 = fun _ => 0 := by unfold arr; rw [kWf_11]
theorem kWa_12 : arr kWf 12 = fun _ => 0 := by unfold arr; rw [kWf_12]
theorem kWa_13 : arr kWf 13 = fun _ => 0 := by unfold arr; rw [kWf_13]
theorem kWa_14 : arr kWf 14 = fun _ => 0 := by unfold arr; rw [kWf_14]
theorem kWa_15 : arr kWf 15 = fun _ => 0 := by unfold arr; rw [kWf_15]
theorem kWa_16 : arr kWf 16 = fun _ => 0 := by unfold arr; rw [kWf_16]
theorem kWa_41 : arr kWf 41 = fun _ => 0 := by unfold arr; rw [kWf_41]
theorem kWa_42 : arr kWf 42 = fun _ => 0 := by unfold arr; rw [kWf_42]
theorem kWa_43 : arr kWf 43 = fun _ => 0 := by unfold arr; rw [kWf_43]
theorem kWa_45 : arr kWf 45 = upd (upd (upd (upd (fun _ => 0) 0 (-9)) 1 (-9)) 2 (-9)) 3 (-9) := by unfold arr; rw [kWf_45]
theorem kWa_46 : arr kWf 46 = fun _ => 0 := by unfold arr; rw [kWf_46]
theorem kWa_47 : arr kWf 47 = fun _ => 0 := by unfold arr; rw [kWf_47]
theorem kWa_48 : arr kWf 48 = fun _ => 0 := by unfold arr; rw [kWf_48]
theorem kWa_49 : arr kWf 49 = fun _ => 0 := by unfold arr; rw [kWf_49]
theorem kWa_50 : arr kWf 50 = fun _ => 0 := by unfold arr; rw [kWf_50]
theorem kWa_51 : arr kWf 51 = fun _ => 0 := by unfold arr; rw [kWf_51]
theorem kWa_52 : arr kWf 52 = fun _ => 0 := by unfold arr; rw [kWf_52]
theorem kWa_53 : arr kWf 53 = fun _ => 0 := by unfold arr; rw [kWf_53]
theorem kWa_54 : arr kWf 54 = fun _ => 0 := by unfold arr; rw [kWf_54]
theorem kWa_55 : arr kWf 55 = fun _ => 0 := by unfold arr; rw [kWf_55]
theorem kWa_56 : arr kWf 56 = fun _ => 0 := by unfold arr; rw [kWf_56]
theorem kWa_66 : arr kWf 66 = fun _ => 0 := by unfold arr; rw [kWf_66]
theorem kWa_67 : arr kWf 67 = fun _ => 0 := by unfold arr; rw [kWf_67]
theorem kWa_68 : arr kWf 68 = fun _ => 0 := by unfold arr; rw [kWf_68]
theorem kWf_7_0 : fld kWf 7 0 = 0 := by unfold fld; rw [kWf_7]; rfl
theorem kWf_7_1 : fld kWf 7 1 = 0 := by unfold fld; rw [kWf_7]; rfl
theorem kWf_7_2 : fld kWf 7 2 = 0 := by unfold fld; rw [kWf_7]; rfl
theorem kWf_44_5 : fld kWf 44 5 = 0 := by unfold fld; rw [kWf_44]; rfl
theorem kWf_44_6 : fld kWf 44 6 = 0 := by unfold fld; rw [kWf_44]; rfl
theorem kWf_44_7 : fld kWf 44 7 = 0 := by unfold fld; rw [kWf_44]; rfl
theorem kWf_40_3 : fld kWf 40 3 = 0 := by unfold fld; rw [kWf_40]; rfl
theorem kWf_44_32 : fld kWf 44 32 = 0 := by unfold fld; rw [kWf_44]; rfl
theorem kWf_44_0 : fld kWf 44 0 = 0 := by unfold fld; rw [kWf_44]; rfl
theorem kWf_44_1 : fld kWf 44 1 = 0 := by unfold fld; rw [kWf_44]; rfl
theorem kWf_0_7 : fld kWf 0 7 = 0 := by unfold fld; rw [kWf_0]; rfl
theorem kWf_0_8 : fld kWf 0 8 = 0 := by unfold fld; rw [kWf_0]; rfl
theorem kInv : Inv kWf := by
  refine ⟨kShape, 0, 0, 0, ?_, ?_, ?_, ?_⟩
  · refine ⟨by decide, by decide, by decide, by rw [kWf_7_0]; rfl, by rw [kWf_7_1]; rfl, fun j h => absurd h (Nat.not_lt_zero j), fun j h => absurd h (Nat.not_lt_zero j), ⟨?_, ?_, ?_⟩, ?_, ?_, ?_, ?_, ?_, ?_, ?_, ?_, ?_⟩
    · rw [kWf_44_5, kWf_7_0]
    · rw [kWf_44_6, kWf_7_1]
    · rw [kWf_44_7, kWf_7_2]
    · rw [kWa_48, kWa_8]
    · rw [kWa_49, kWa_9]
    · rw [kWa_50, kWa_10]
    · rw [kWa_51, kWa_11]
    · rw [kWa_52, kWa_12]
    · rw [kWa_53, kWa_13]
    · rw [kWa_54, kWa_14]
    · rw [kWa_55, kWa_15]
    · rw [kWa_56, kWa_16]
  · refine ⟨by decide, by rw [kWf_40_3]; rfl, fun j h => absurd h (Nat.not_lt_zero j), by rw [kWf_44_32, kWf_40_3], ?_, ?_, ?_⟩
    · rw [kWa_66, kWa_41]
    · rw [kWa_67, kWa_42]
    · rw [kWa_68, kWa_43]
  · intro k hk
    rw [kWa_2, kWa_45]
    match k, hk with
    | 0, _ => exact Or.inl ⟨rfl, rfl⟩
    | 1, _ => exact Or.inl ⟨rfl, rfl⟩
    | 2, _ => exact Or.inl ⟨rfl, rfl⟩
    | 3, _ => exact Or.inl ⟨rfl, rfl⟩
    | n + 4, h => omega
  · exact ⟨by rw [kWf_44_0, kWf_0_8], by rw [kWf_44_1, kWf_0_7]⟩

