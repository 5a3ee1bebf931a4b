-- small rows for the walks
theorem x_pushI {X : mX} {d : Nat} {M : mM} {Q : Option Value → mW → Prop} {pc : Nat} {L st : List Value} {w : mW} {v : Int32} (k : mJ X d M Q pc L (.int v :: st) w) : mJ X d M Q pc L ((some (Value.int v)).toList ++ st) w := k
theorem x_pushL {X : mX} {d : Nat} {M : mM} {Q : Option Value → mW → Prop} {pc : Nat} {L st : List Value} {w : mW} {v : Int64} (k : mJ X d M Q pc L (.long v :: st) w) : mJ X d M Q pc L ((some (Value.long v)).toList ++ st) w := k
theorem x_pushV {X : mX} {d : Nat} {M : mM} {Q : Option Value → mW → Prop} {pc : Nat} {L st : List Value} {w : mW} (k : mJ X d M Q pc L st w) : mJ X d M Q pc L ((none : Option Value).toList ++ st) w := k
theorem x_vs {X : mX} {d : Nat} {M : mM} {Q : Option Value → mW → Prop} {pc : Nat} {L st : List Value} {w : mW} {idx ci n a : Nat} {M' : mM} {As : List Value} {fs : List (Option Nat)} {Q' : Option Value → mW → Prop} {st0 : List Value} (hst : As.reverse ++ .ref a :: st = st0) (hS : Shape w) (hs : mVirt M.1.cls idx M' ci n) (hd : decode M.2.1 pc = .ok (.invokevirtual idx, 3)) (ha : mShp[a]? = some (.inr (ci, fs))) (hn : As.length = n) (hr : (st.map fun v => v.category).sum ≤ 8) (hM : mC d M' (.ref a :: As) w Q') (kk : ∀ v w', Q' v w' → mJ X (d + 1) M Q (pc + 3) L (v.toList ++ st) w') : mJ X (d + 1) M Q pc L st0 w := x_virtS hS hs hd ha hn hr hst hM kk
theorem x_ss {X : mX} {d : Nat} {M : mM} {Q : Option Value → mW → Prop} {pc : Nat} {L st : List Value} {w : mW} {idx n : Nat} {M' : mM} {As : List Value} {Q' : Option Value → mW → Prop} {st0 : List Value} (hst : As.reverse ++ st = st0) (hs : mStat M.1.cls idx M' n) (hd : decode M.2.1 pc = .ok (.invokestatic idx, 3)) (hn : As.length = n) (hr : (st.map fun v => v.category).sum ≤ 8) (hM : mC d M' As w Q') (kk : ∀ v w', Q' v w' → mJ X (d + 1) M Q (pc + 3) L (v.toList ++ st) w') : mJ X (d + 1) M Q pc L st0 w := x_stat hs hd hn hr hst hM kk
theorem nI_inc (k : Nat) : nI k + Int32.ofInt 1 = nI (k + 1) := (nI_succ k).symm
theorem nI_dec (k : Nat) : nI (k + 1) + Int32.ofInt (-1) = nI k := pk_m1 k
theorem i_lt {a b : Int32} : a < b ↔ a.toInt < b.toInt := Int32.lt_iff_toInt_lt
theorem i_le {a b : Int32} : a ≤ b ↔ a.toInt ≤ b.toInt := Int32.le_iff_toInt_le
theorem i_eq {a b : Int32} : a = b ↔ a.toInt = b.toInt := Int32.toInt_inj.symm
theorem i_lit {n : Nat} (h : n < 2 ^ 31) : (OfNat.ofNat n : Int32).toInt = (n : Int) := nI_toInt h
theorem i_add {a b : Int32} (h1 : -2147483648 ≤ a.toInt + b.toInt) (h2 : a.toInt + b.toInt ≤ 2147483647) : (a + b).toInt = a.toInt + b.toInt := by
  rw [Int32.toInt_add]; exact Int.bmod_eq_of_le (by omega) (by omega)
theorem i_sub {a b : Int32} (h1 : -2147483648 ≤ a.toInt - b.toInt) (h2 : a.toInt - b.toInt ≤ 2147483647) : (a - b).toInt = a.toInt - b.toInt := by
  rw [Int32.toInt_sub]; exact Int.bmod_eq_of_le (by omega) (by omega)
theorem i_mul {a b : Int32} (h1 : -2147483648 ≤ a.toInt * b.toInt) (h2 : a.toInt * b.toInt ≤ 2147483647) : (a * b).toInt = a.toInt * b.toInt := by
  rw [Int32.toInt_mul]; exact Int.bmod_eq_of_le (by omega) (by omega)
theorem i_clamp {a : Int32} : a.toNatClampNeg = a.toInt.toNat := rfl
theorem sw_out6 {x : Int32} (h0 : ¬ x = 0) (h1 : ¬ x = 1) (h2 : ¬ x = 2) (h3 : ¬ x = 3) (h4 : ¬ x = 4) (h5 : ¬ x = 5) : x.toInt < 0 ∨ 5 < x.toInt := by
  have g0 : ¬ x.toInt = 0 := lv_neT h0 rfl
  have g1 : ¬ x.toInt = 1 := lv_neT h1 rfl
  have g2 : ¬ x.toInt = 2 := lv_neT h2 rfl
  have g3 : ¬ x.toInt = 3 := lv_neT h3 rfl
  have g4 : ¬ x.toInt = 4 := lv_neT h4 rfl
  have g5 : ¬ x.toInt = 5 := lv_neT h5 rfl
  omega
theorem sw_out5 {x : Int32} (h0 : ¬ x = 0) (h1 : ¬ x = 1) (h2 : ¬ x = 2) (h3 : ¬ x = 3) (h4 : ¬ x = 4) : x.toInt < 0 ∨ 4 < x.toInt := by
  have g0 : ¬ x.toInt = 0 := lv_neT h0 rfl
  have g1 : ¬ x.toInt = 1 := lv_neT h1 rfl
  have g2 : ¬ x.toInt = 2 := lv_neT h2 rfl
  have g3 : ¬ x.toInt = 3 := lv_neT h3 rfl
  have g4 : ¬ x.toInt = 4 := lv_neT h4 rfl
  omega
/-- an index that has been looked at -/
theorem ix_of {i : Int32} {n : Nat} (h1 : ¬ i < 0) (h2 : i < nI n) (hn : n < 2 ^ 31) : vp_in i n := by
  rw [vp_in_iff]
  rw [i_lt, nI_toInt hn] at h2
  have h3 := Int32.not_lt.mp h1
  rw [i_le] at h3
  exact ⟨h3, h2⟩
def b2 (p : Prop) [Decidable p] : Int32 := if p then 1 else 0
theorem b2_t {p : Prop} [Decidable p] (h : p) : b2 p = 1 := if_pos h
theorem b2_f {p : Prop} [Decidable p] (h : ¬ p) : b2 p = 0 := if_neg h
theorem b2_e0 {p : Prop} [Decidable p] : b2 p = 0 ↔ ¬ p := by unfold b2; split <;> simp_all
theorem b2_n0 {p : Prop} [Decidable p] : (¬ b2 p = 0) ↔ p := by unfold b2; split <;> simp_all
theorem x_ri {X : mX} {d : Nat} {M : mM} {Q : Option Value → mW → Prop} {pc : Nat} {L : List Value} {w : mW} {x : Int32} (hd : decode M.2.1 pc = .ok (.ireturn, 1)) {ty : FieldType} (hr : M.2.2.2 = some ty) (hn : narrow ty (.int x) = .int x) (hq : Q (some (.int x)) w) : mJ X d M Q pc L [.int x] w := x_iret (st := []) hd hr hn hq
theorem x_rl {X : mX} {d : Nat} {M : mM} {Q : Option Value → mW → Prop} {pc : Nat} {L : List Value} {w : mW} {x : Int64} (hd : decode M.2.1 pc = .ok (.lreturn, 1)) (hr : M.2.2.2 = some .long) (hq : Q (some (.long x)) w) : mJ X d M Q pc L [.long x] w := x_lret (st := []) hd hr hq
theorem x_rv {X : mX} {d : Nat} {M : mM} {Q : Option Value → mW → Prop} {pc : Nat} {L : List Value} {w : mW} (hd : decode M.2.1 pc = .ok (.return_, 1)) (hr : M.2.2.2 = none) (hq : Q none w) : mJ X d M Q pc L [] w := x_vret (st := []) hd hr hq
theorem il_0 : (0 : Int32).toInt = 0 := rfl
theorem il_1 : (1 : Int32).toInt = 1 := rfl
theorem il_2 : (2 : Int32).toInt = 2 := rfl
theorem il_3 : (3 : Int32).toInt = 3 := rfl
theorem il_4 : (4 : Int32).toInt = 4 := rfl
theorem il_5 : (5 : Int32).toInt = 5 := rfl
theorem il_6 : (6 : Int32).toInt = 6 := rfl
theorem il_7 : (7 : Int32).toInt = 7 := rfl
theorem il_8 : (8 : Int32).toInt = 8 := rfl
theorem il_9 : (9 : Int32).toInt = 9 := rfl
theorem il_10 : (10 : Int32).toInt = 10 := rfl
theorem il_14 : (14 : Int32).toInt = 14 := rfl
theorem il_15 : (15 : Int32).toInt = 15 := rfl
theorem il_19 : (19 : Int32).toInt = 19 := rfl
theorem il_20 : (20 : Int32).toInt = 20 := rfl
theorem il_24 : (24 : Int32).toInt = 24 := rfl
theorem il_30 : (30 : Int32).toInt = 30 := rfl
theorem il_31 : (31 : Int32).toInt = 31 := rfl
theorem il_44 : (44 : Int32).toInt = 44 := rfl
theorem il_48 : (48 : Int32).toInt = 48 := rfl
theorem il_49 : (49 : Int32).toInt = 49 := rfl
theorem il_52 : (52 : Int32).toInt = 52 := rfl
theorem il_57 : (57 : Int32).toInt = 57 := rfl
theorem il_59 : (59 : Int32).toInt = 59 := rfl
theorem il_60 : (60 : Int32).toInt = 60 := rfl
theorem il_70 : (70 : Int32).toInt = 70 := rfl
theorem il_99 : (99 : Int32).toInt = 99 := rfl
theorem il_100 : (100 : Int32).toInt = 100 := rfl
theorem il_103 : (103 : Int32).toInt = 103 := rfl
theorem il_108 : (108 : Int32).toInt = 108 := rfl
theorem il_114 : (114 : Int32).toInt = 114 := rfl
theorem il_m1 : (-1 : Int32).toInt = -1 := rfl
theorem il_m2 : (-2 : Int32).toInt = -2 := rfl
theorem il_m3 : (-3 : Int32).toInt = -3 := rfl
theorem il_m4 : (-4 : Int32).toInt = -4 := rfl
theorem il_m9 : (-9 : Int32).toInt = -9 := rfl
theorem il_m10 : (-10 : Int32).toInt = -10 := rfl
theorem il_m100 : (-100 : Int32).toInt = -100 := rfl

