-- seasons: the picture; the class's parts
abbrev S5 : Type := (Nat → Int32) × (Nat → Int32) × (Nat → Int32) × (Nat → Int32) × Int32
def sSt (NB NW : Int32) (nw : Nat) (ki be pe si re : Nat → Int32) (a b : Int32) (s : S5) : Option S5 :=
  if b = 9 then (if inB NB s.2.2.1 a.toNatClampNeg then some (s.1, s.2.1, upd s.2.2.1 a.toNatClampNeg (-9), s.2.2.2.1, s.2.2.2.2) else none)
  else if b = 8 then some ((nSt NB pe nw a.toNatClampNeg (s.1, s.2.2.1, s.2.2.2.1)).1, s.2.1, (nSt NB pe nw a.toNatClampNeg (s.1, s.2.2.1, s.2.2.2.1)).2.1, (nSt NB pe nw a.toNatClampNeg (s.1, s.2.2.1, s.2.2.2.1)).2.2, s.2.2.2.2 + nI (nOut NB pe nw a.toNatClampNeg (s.1, s.2.2.1, s.2.2.2.1)))
  else if canE NB NW nw ki be pe si s.1 s.2.1 re s.2.2.1 a b then some (s.1, upd s.2.1 a.toNatClampNeg (si b.toNatClampNeg), upd s.2.2.1 a.toNatClampNeg b, s.2.2.2.1, s.2.2.2.2) else none
def gP (NB NW a b : Int32) : Prop := (b = 8 ∧ 0 ≤ a ∧ a ≤ 9) ∨ (¬ b = 8 ∧ (b = 9 ∨ (0 ≤ b ∧ b < NB)) ∧ 0 ≤ a ∧ a < NW)
def refE (NB NW a b : Int32) : Int32 := if b = 8 then (if 0 ≤ a ∧ a ≤ 9 then 0 else -2) else if b = 9 ∨ (0 ≤ b ∧ b < NB) then (if 0 ≤ a ∧ a < NW then 0 else -1) else -2
theorem refE_0 {NB NW a b : Int32} (h : refE NB NW a b = 0) : gP NB NW a b := by
  unfold refE at h
  by_cases h1 : b = 8
  · by_cases h2 : 0 ≤ a ∧ a ≤ 9
    · exact Or.inl ⟨h1, h2⟩
    · rw [if_pos h1, if_neg h2] at h; exact absurd h (by decide)
  · rw [if_neg h1] at h
    by_cases h2 : b = 9 ∨ (0 ≤ b ∧ b < NB)
    · by_cases h3 : 0 ≤ a ∧ a < NW
      · exact Or.inr ⟨h1, h2, h3⟩
      · rw [if_pos h2, if_neg h3] at h; exact absurd h (by decide)
    · rw [if_neg h2] at h; exact absurd h (by decide)
def rfN (f : Nat → Int32) : Nat → Int32
  | 0 => 0
  | k + 1 => if rfN f k = 0 then f k else rfN f k
theorem rfN_up {f : Nat → Int32} {k : Nat} (h : ¬ rfN f k = 0) : ∀ m, rfN f (k + m) = rfN f k
  | 0 => rfl
  | m + 1 => by
    have ih := rfN_up h m
    show (if rfN f (k + m) = 0 then f (k + m) else rfN f (k + m)) = _
    rw [ih, if_neg h]
theorem rfN_stop {f : Nat → Int32} {k n : Nat} (h : rfN f k = 0) (hf : ¬ f k = 0) (hk : k < n) : rfN f n = f k := by
  have e : rfN f (k + 1) = f k := by
    show (if rfN f k = 0 then f k else rfN f k) = _
    rw [if_pos h]
  have := rfN_up (f := f) (k := k + 1) (by rw [e]; exact hf) (n - (k + 1))
  rw [show k + 1 + (n - (k + 1)) = n by omega, e] at this
  exact this
theorem rfN_0 {f : Nat → Int32} {n : Nat} (h : rfN f n = 0) : ∀ k, k < n → f k = 0 := by
  induction n with
  | zero => intro k hk; omega
  | succ n ih =>
    have h0 : rfN f n = 0 := by
      by_cases z : rfN f n = 0
      · exact z
      · have e : rfN f (n + 1) = rfN f n := if_neg z
        rw [e] at h; exact absurd h z
    have e : rfN f (n + 1) = f n := if_pos h0
    intro k hk
    by_cases q : k = n
    · subst q; rw [← e]; exact h
    · exact ih h0 k (by omega)
def sGo (st : Nat → S5 → Option S5) : Nat → S5 → Option Nat × S5
  | 0, s => (none, s)
  | k + 1, s => match sGo st k s with
    | (some t, s') => (some t, s')
    | (none, s') => match st k s' with
      | none => (some k, s')
      | some s'' => (none, s'')
theorem sGo_w {st : Nat → S5 → Option S5} {k t : Nat} {s s' : S5} (h : sGo st k s = (some t, s')) : ∀ m, sGo st (k + m) s = (some t, s')
  | 0 => h
  | m + 1 => by
    have ih := sGo_w h m
    show (match sGo st (k + m) s with
      | (some t, s') => (some t, s')
      | (none, s') => match st (k + m) s' with
        | none => (some (k + m), s')
        | some s'' => (none, s'')) = _
    rw [ih]
theorem sGo_no {st : Nat → S5 → Option S5} {k n : Nat} {s s' : S5} (h : sGo st k s = (none, s')) (h2 : st k s' = none) (hk : k < n) : sGo st n s = (some k, s') := by
  have e : sGo st (k + 1) s = (some k, s') := by simp only [sGo, h, h2]
  have := sGo_w e (n - (k + 1))
  rw [show k + 1 + (n - (k + 1)) = n by omega] at this
  exact this
theorem sGo_yes {st : Nat → S5 → Option S5} {k : Nat} {s s' s'' : S5} (h : sGo st k s = (none, s')) (h2 : st k s' = some s'') : sGo st (k + 1) s = (none, s'') := by simp only [sGo, h, h2]
def fwE : Option Nat → Int32
  | none => -9
  | some t => nI t
/-- rows that are copied, cell by cell: c says how far each has come -/
def cpS (m : Nat) (X : Nat → Nat → Int32) (dst : Nat → Nat) (A : List Nat) (w0 w : mW) (c : Nat → Nat) : Prop := Shape w ∧ Gr A [] w0 w ∧ ∀ a, a < m → ∀ j, j < c a → arr w (dst a) j = X a j
theorem cpS.zero {m : Nat} {X : Nat → Nat → Int32} {dst : Nat → Nat} {A : List Nat} {w0 : mW} (hS : Shape w0) {c : Nat → Nat} (hc : ∀ a, a < m → c a = 0) : cpS m X dst A w0 w0 c := ⟨hS, Gr.rf, fun a ha j hj => by rw [hc a ha] at hj; omega⟩
theorem cpS.mono {m : Nat} {X : Nat → Nat → Int32} {dst : Nat → Nat} {A : List Nat} {w0 w : mW} {c c' : Nat → Nat} (h : cpS m X dst A w0 w c) (hc : ∀ a, a < m → c' a ≤ c a) : cpS m X dst A w0 w c' := ⟨h.1, h.2.1, fun a ha j hj => h.2.2 a ha j (Nat.lt_of_lt_of_le hj (hc a ha))⟩
theorem cpS.st {m : Nat} {X : Nat → Nat → Int32} {dst : Nat → Nat} {A : List Nat} {w0 w : mW} {c : Nat → Nat} (h : cpS m X dst A w0 w c) (a D K : Nat) {x : Int32} {n : Nat} (ha : a < m) (hD : dst a = D) (hK : c a = K) (hx : X a K = x) (hs : mShp[D]? = some (.inl n)) (hA : D ∈ A) (hi : ∀ b, b < m → b ≠ a → dst b ≠ D) : cpS m X dst A w0 (setA w D (upd (arr w D) K x)) (fun b => if b = a then K + 1 else c b) := by
  refine ⟨h.1.stA _ _, h.2.1.stA hA _, fun b hb j hj => ?_⟩
  by_cases e : b = a
  · subst e
    have hj : j < (if b = b then K + 1 else c b) := hj
    rw [if_pos rfl] at hj
    rw [hD, arr_setA h.1 hs]
    by_cases q : j = K
    · subst q; rw [pk_us, hx]
    · rw [pk_un q, ← hD]; exact h.2.2 b hb j (by omega)
  · have hj : j < (if b = a then K + 1 else c b) := hj
    rw [if_neg e] at hj
    rw [arr_setA_a (hi b hb e)]
    exact h.2.2 b hb j hj
abbrev bX (w : mW) (a j : Nat) : Int32 := arr w (8 + a) j
abbrev bD (a : Nat) : Nat := 19 + a
abbrev bA : List Nat := [19, 20, 21, 22, 23, 24, 25, 26, 27]
theorem bD_ne {D : Nat} (a : Nat) (h : 19 + a = D) : ∀ b, b < 9 → b ≠ a → bD b ≠ D := by intro b _ h2; unfold bD; omega
abbrev bW (w : mW) : mW := setF (setF (setF w 18 0 (fld w 7 0)) 18 1 (fld w 7 1)) 18 2 (fld w 7 2)
set_option maxHeartbeats 2000000 in
theorem c_X0_become {d : Nat} {w0 : mW} {nb nw : Nat} (hS0 : Shape w0) (tb : (fld w0 7 0).toInt = (nb : Int)) (hnb : nb ≤ 5) (tw : (fld w0 7 1).toInt = (nw : Int)) (hnw : nw ≤ 5) : mC d kX0_become [.ref 18, .ref 7] w0 (fun r w' => r = none ∧ cpS 9 (bX w0) bD bA (bW w0) w' (fun a => if a < 4 then nb else nw)) := by
  have hSb : Shape (bW w0) := ((hS0.stF rfl rfl _).stF rfl rfl _).stF rfl rfl _
  have b180 : fld (bW w0) 18 0 = fld w0 7 0 := by rw [fld_setF_k (by decide), fld_setF_k (by decide), fld_setF hS0 rfl rfl]
  have b181 : fld (bW w0) 18 1 = fld w0 7 1 := by rw [fld_setF_k (by decide), fld_setF (hS0.stF rfl rfl _) rfl rfl]
  have bar : ∀ a, arr (bW w0) a = arr w0 a := fun a => by rw [arr_setF, arr_setF, arr_setF]
  have lp2 : ∀ (m k : Nat) (w : mW), cpS 9 (bX w0) bD bA (bW w0) w (fun a => if a < 4 then nb else k) → k ≤ nw → nw < k + m → mJ mX0 d kX0_become (fun r w' => r = none ∧ cpS 9 (bX w0) bD bA (bW w0) w' (fun a => if a < 4 then nb else nw)) 90 [.ref 18, .ref 7, .int (nI k)] [] w := by
    intro m
    induction m with
    | zero => intro k w _ h1 h2; omega
    | succ m ih =>
      intro k w hC hk1 hk2
      have hS := hC.1
      have tk : (nI k).toInt = (k : Int) := nI_toInt (by omega)
      have t1 : (fld w 18 1).toInt = (nw : Int) := by rw [hC.2.1.2 18 1 (by decide), b181]; exact tw
      refine x_iload_n (pc := 90) (i := 2) dX0_become_90 rfl rfl ?_
      refine x_aload_n (pc := 91) (i := 0) dX0_become_91 rfl rfl ?_
      refine x_getI (pc := 92) hS fX0_43 dX0_become_92 rfl rfl ?_
      refine x_icmp_ge (pc := 95) (tgt := 164) dX0_become_95 (by decide) (fun h95 => ?_) (fun h95 => ?_)
      · refine x_rv (pc := 164) dX0_become_164 rfl ?_
        exact ⟨rfl, by rw [show k = nw by (try simp only [b2_e0, b2_n0, Decidable.not_not] at *) <;> (try simp only [i_lt, i_le, i_eq, not_and, not_or, ne_eq, il_0, il_1, il_2, il_3, il_4, il_5, il_6, il_7, il_8, il_9, il_10, il_14, il_15, il_19, il_20, il_24, il_30, il_31, il_44, il_48, il_49, il_52, il_57, il_59, il_60, il_70, il_99, il_100, il_103, il_108, il_114, il_m1, il_m2, il_m3, il_m4, il_m9, il_m10, il_m100] at *) <;> omega] at hC; exact hC⟩
      · have hkn : k < nw := by (try simp only [b2_e0, b2_n0, Decidable.not_not] at *) <;> (try simp only [i_lt, i_le, i_eq, not_and, not_or, ne_eq, il_0, il_1, il_2, il_3, il_4, il_5, il_6, il_7, il_8, il_9, il_10, il_14, il_15, il_19, il_20, il_24, il_30, il_31, il_44, il_48, il_49, il_52, il_57, il_59, il_60, il_70, il_99, il_100, il_103, il_108, il_114, il_m1, il_m2, il_m3, il_m4, il_m9, il_m10, il_m100] at *) <;> omega
        refine x_aload_n (pc := 98) (i := 0) dX0_become_98 rfl rfl ?_
        refine x_getR (pc := 99) hS fX0_24 dX0_become_99 rfl rfl ?_
        refine x_iload_n (pc := 102) (i := 2) dX0_become_102 rfl rfl ?_
        refine x_aload_n (pc := 103) (i := 1) dX0_become_103 rfl rfl ?_
        refine x_getR (pc := 104) hS fX0_24 dX0_become_104 rfl rfl ?_
        refine x_iload_n (pc := 107) (i := 2) dX0_become_107 rfl rfl ?_
        refine x_aldN (pc := 108) hS dX0_become_108 rfl (by omega) (by decide) ?_
        rw [hC.2.1.1 12 (by decide), bar]
        refine x_astN (pc := 109) hS dX0_become_109 rfl (by omega) (by decide) (fun hS => ?_)
        have hC := hC.st 4 23 k (by decide) rfl rfl rfl rfl (by decide) (bD_ne 4 rfl)
        refine x_aload_n (pc := 110) (i := 0) dX0_become_110 rfl rfl ?_
        refine x_getR (pc := 111) hS fX0_27 dX0_become_111 rfl rfl ?_
        refine x_iload_n (pc := 114) (i := 2) dX0_become_114 rfl rfl ?_
        refine x_aload_n (pc := 115) (i := 1) dX0_become_115 rfl rfl ?_
        refine x_getR (pc := 116) hS fX0_27 dX0_become_116 rfl rfl ?_
        refine x_iload_n (pc := 119) (i := 2) dX0_become_119 rfl rfl ?_
        refine x_aldN (pc := 120) hS dX0_become_120 rfl (by omega) (by decide) ?_
        rw [hC.2.1.1 13 (by decide), bar]
        refine x_astN (pc := 121) hS dX0_become_121 rfl (by omega) (by decide) (fun hS => ?_)
        have hC := hC.st 5 24 k (by decide) rfl rfl rfl rfl (by decide) (bD_ne 5 rfl)
        refine x_aload_n (pc := 122) (i := 0) dX0_become_122 rfl rfl ?_
        refine x_getR (pc := 123) hS fX0_30 dX0_become_123 rfl rfl ?_
        refine x_iload_n (pc := 126) (i := 2) dX0_become_126 rfl rfl ?_
        refine x_aload_n (pc := 127) (i := 1) dX0_become_127 rfl rfl ?_
        refine x_getR (pc := 128) hS fX0_30 dX0_become_128 rfl rfl ?_
        refine x_iload_n (pc := 131) (i := 2) dX0_become_131 rfl rfl ?_
        refine x_aldN (pc := 132) hS dX0_become_132 rfl (by omega) (by decide) ?_
        rw [hC.2.1.1 14 (by decide), bar]
        refine x_astN (pc := 133) hS dX0_become_133 rfl (by omega) (by decide) (fun hS => ?_)
        have hC := hC.st 6 25 k (by decide) rfl rfl rfl rfl (by decide) (bD_ne 6 rfl)
        refine x_aload_n (pc := 134) (i := 0) dX0_become_134 rfl rfl ?_
        refine x_getR (pc := 135) hS fX0_33 dX0_become_135 rfl rfl ?_
        refine x_iload_n (pc := 138) (i := 2) dX0_become_138 rfl rfl ?_
        refine x_aload_n (pc := 139) (i := 1) dX0_become_139 rfl rfl ?_
        refine x_getR (pc := 140) hS fX0_33 dX0_become_140 rfl rfl ?_
        refine x_iload_n (pc := 143) (i := 2) dX0_become_143 rfl rfl ?_
        refine x_aldN (pc := 144) hS dX0_become_144 rfl (by omega) (by decide) ?_
        rw [hC.2.1.1 15 (by decide), bar]
        refine x_astN (pc := 145) hS dX0_become_145 rfl (by omega) (by decide) (fun hS => ?_)
        have hC := hC.st 7 26 k (by decide) rfl rfl rfl rfl (by decide) (bD_ne 7 rfl)
        refine x_aload_n (pc := 146) (i := 0) dX0_become_146 rfl rfl ?_
        refine x_getR (pc := 147) hS fX0_36 dX0_become_147 rfl rfl ?_
        refine x_iload_n (pc := 150) (i := 2) dX0_become_150 rfl rfl ?_
        refine x_aload_n (pc := 151) (i := 1) dX0_become_151 rfl rfl ?_
        refine x_getR (pc := 152) hS fX0_36 dX0_become_152 rfl rfl ?_
        refine x_iload_n (pc := 155) (i := 2) dX0_become_155 rfl rfl ?_
        refine x_aldN (pc := 156) hS dX0_become_156 rfl (by omega) (by decide) ?_
        rw [hC.2.1.1 16 (by decide), bar]
        refine x_astN (pc := 157) hS dX0_become_157 rfl (by omega) (by decide) (fun hS => ?_)
        have hC := hC.st 8 27 k (by decide) rfl rfl rfl rfl (by decide) (bD_ne 8 rfl)
        refine x_iinc (pc := 158) (L' := [_, _, _]) dX0_become_158 (by decide) rfl (by first | exact nI_inc _ | rfl) rfl ?_
        refine x_goto (pc := 161) (tgt := 90) dX0_become_161 (by decide) ?_
        exact ih (k + 1) _ (hC.mono (fun a ha => by (repeat' split) <;> omega)) (by omega) (by omega)
  have lp1 : ∀ (m k : Nat) (w : mW), cpS 9 (bX w0) bD bA (bW w0) w (fun a => if a < 4 then k else 0) → k ≤ nb → nb < k + m → mJ mX0 d kX0_become (fun r w' => r = none ∧ cpS 9 (bX w0) bD bA (bW w0) w' (fun a => if a < 4 then nb else nw)) 26 [.ref 18, .ref 7, .int (nI k)] [] w := by
    intro m
    induction m with
    | zero => intro k w _ h1 h2; omega
    | succ m ih =>
      intro k w hC hk1 hk2
      have hS := hC.1
      have tk : (nI k).toInt = (k : Int) := nI_toInt (by omega)
      have t0 : (fld w 18 0).toInt = (nb : Int) := by rw [hC.2.1.2 18 0 (by decide), b180]; exact tb
      refine x_iload_n (pc := 26) (i := 2) dX0_become_26 rfl rfl ?_
      refine x_aload_n (pc := 27) (i := 0) dX0_become_27 rfl rfl ?_
      refine x_getI (pc := 28) hS fX0_39 dX0_become_28 rfl rfl ?_
      refine x_icmp_ge (pc := 31) (tgt := 88) dX0_become_31 (by decide) (fun h31 => ?_) (fun h31 => ?_)
      · have hkn : k = nb := by (try simp only [b2_e0, b2_n0, Decidable.not_not] at *) <;> (try simp only [i_lt, i_le, i_eq, not_and, not_or, ne_eq, il_0, il_1, il_2, il_3, il_4, il_5, il_6, il_7, il_8, il_9, il_10, il_14, il_15, il_19, il_20, il_24, il_30, il_31, il_44, il_48, il_49, il_52, il_57, il_59, il_60, il_70, il_99, il_100, il_103, il_108, il_114, il_m1, il_m2, il_m3, il_m4, il_m9, il_m10, il_m100] at *) <;> omega
        refine x_iconst (pc := 88) (v := 0) dX0_become_88 (by decide) ?_
        refine x_istore_n (pc := 89) (i := 2) (L' := [_, _, _]) dX0_become_89 rfl (by decide) rfl ?_
        exact lp2 (nw + 1) 0 w (hC.mono (fun a ha => by (repeat' split) <;> omega)) (by omega) (by omega)
      · have hkn : k < nb := by (try simp only [b2_e0, b2_n0, Decidable.not_not] at *) <;> (try simp only [i_lt, i_le, i_eq, not_and, not_or, ne_eq, il_0, il_1, il_2, il_3, il_4, il_5, il_6, il_7, il_8, il_9, il_10, il_14, il_15, il_19, il_20, il_24, il_30, il_31, il_44, il_48, il_49, il_52, il_57, il_59, il_60, il_70, il_99, il_100, il_103, il_108, il_114, il_m1, il_m2, il_m3, il_m4, il_m9, il_m10, il_m100] at *) <;> omega
        refine x_aload_n (pc := 34) (i := 0) dX0_become_34 rfl rfl ?_
        refine x_getR (pc := 35) hS fX0_9 dX0_become_35 rfl rfl ?_
        refine x_iload_n (pc := 38) (i := 2) dX0_become_38 rfl rfl ?_
        refine x_aload_n (pc := 39) (i := 1) dX0_become_39 rfl rfl ?_
        refine x_getR (pc := 40) hS fX0_9 dX0_become_40 rfl rfl ?_
        refine x_iload_n (pc := 43) (i := 2) dX0_become_43 rfl rfl ?_
        refine x_aldN (pc := 44) hS dX0_become_44 rfl (by omega) (by decide) ?_
        rw [hC.2.1.1 8 (by decide), bar]
        refine x_astN (pc := 45) hS dX0_become_45 rfl (by omega) (by decide) (fun hS => ?_)
        have hC := hC.st 0 19 k (by decide) rfl rfl rfl rfl (by decide) (bD_ne 0 rfl)
        refine x_aload_n (pc := 46) (i := 0) dX0_become_46 rfl rfl ?_
        refine x_getR (pc := 47) hS fX0_15 dX0_become_47 rfl rfl ?_
        refine x_iload_n (pc := 50) (i := 2) dX0_become_50 rfl rfl ?_
        refine x_aload_n (pc := 51) (i := 1) dX0_become_51 rfl rfl ?_
        refine x_getR (pc := 52) hS fX0_15 dX0_become_52 rfl rfl ?_
        refine x_iload_n (pc := 55) (i := 2) dX0_become_55 rfl rfl ?_
        refine x_aldN (pc := 56) hS dX0_become_56 rfl (by omega) (by decide) ?_
        rw [hC.2.1.1 9 (by decide), bar]
        refine x_astN (pc := 57) hS dX0_become_57 rfl (by omega) (by decide) (fun hS => ?_)
        have hC := hC.st 1 20 k (by decide) rfl rfl rfl rfl (by decide) (bD_ne 1 rfl)
        refine x_aload_n (pc := 58) (i := 0) dX0_become_58 rfl rfl ?_
        refine x_getR (pc := 59) hS fX0_18 dX0_become_59 rfl rfl ?_
        refine x_iload_n (pc := 62) (i := 2) dX0_become_62 rfl rfl ?_
        refine x_aload_n (pc := 63) (i := 1) dX0_become_63 rfl rfl ?_
        refine x_getR (pc := 64) hS fX0_18 dX0_become_64 rfl rfl ?_
        refine x_iload_n (pc := 67) (i := 2) dX0_become_67 rfl rfl ?_
        refine x_aldN (pc := 68) hS dX0_become_68 rfl (by omega) (by decide) ?_
        rw [hC.2.1.1 10 (by decide), bar]
        refine x_astN (pc := 69) hS dX0_become_69 rfl (by omega) (by decide) (fun hS => ?_)
        have hC := hC.st 2 21 k (by decide) rfl rfl rfl rfl (by decide) (bD_ne 2 rfl)
        refine x_aload_n (pc := 70) (i := 0) dX0_become_70 rfl rfl ?_
        refine x_getR (pc := 71) hS fX0_21 dX0_become_71 rfl rfl ?_
        refine x_iload_n (pc := 74) (i := 2) dX0_become_74 rfl rfl ?_
        refine x_aload_n (pc := 75) (i := 1) dX0_become_75 rfl rfl ?_
        refine x_getR (pc := 76) hS fX0_21 dX0_become_76 rfl rfl ?_
        refine x_iload_n (pc := 79) (i := 2) dX0_become_79 rfl rfl ?_
        refine x_aldN (pc := 80) hS dX0_become_80 rfl (by omega) (by decide) ?_
        rw [hC.2.1.1 11 (by decide), bar]
        refine x_astN (pc := 81) hS dX0_become_81 rfl (by omega) (by decide) (fun hS => ?_)
        have hC := hC.st 3 22 k (by decide) rfl rfl rfl rfl (by decide) (bD_ne 3 rfl)
        refine x_iinc (pc := 82) (L' := [_, _, _]) dX0_become_82 (by decide) rfl (by first | exact nI_inc _ | rfl) rfl ?_
        refine x_goto (pc := 85) (tgt := 26) dX0_become_85 (by decide) ?_
        exact ih (k + 1) _ (hC.mono (fun a ha => by (repeat' split) <;> omega)) (by omega) (by omega)
  have hS := hS0
  refine mC.of (L := [_, _, _]) okX0_become 1 rfl rfl ?_
  refine x_aload_n (pc := 0) (i := 0) dX0_become_0 rfl rfl ?_
  refine x_aload_n (pc := 1) (i := 1) dX0_become_1 rfl rfl ?_
  refine x_getI (pc := 2) hS fX0_39 dX0_become_2 rfl rfl ?_
  refine x_putI (pc := 5) hS fX0_39 dX0_become_5 rfl rfl rfl rfl (fun hS => ?_)
  refine x_aload_n (pc := 8) (i := 0) dX0_become_8 rfl rfl ?_
  refine x_aload_n (pc := 9) (i := 1) dX0_become_9 rfl rfl ?_
  refine x_getI (pc := 10) hS fX0_43 dX0_become_10 rfl rfl ?_
  rw [fld_setF_a (by decide)]
  refine x_putI (pc := 13) hS fX0_43 dX0_become_13 rfl rfl rfl rfl (fun hS => ?_)
  refine x_aload_n (pc := 16) (i := 0) dX0_become_16 rfl rfl ?_
  refine x_aload_n (pc := 17) (i := 1) dX0_become_17 rfl rfl ?_
  refine x_getI (pc := 18) hS fX0_46 dX0_become_18 rfl rfl ?_
  rw [fld_setF_a (by decide), fld_setF_a (by decide)]
  refine x_putI (pc := 21) hS fX0_46 dX0_become_21 rfl rfl rfl rfl (fun hS => ?_)
  refine x_iconst (pc := 24) (v := 0) dX0_become_24 (by decide) ?_
  refine x_istore_n (pc := 25) (i := 2) (L' := [_, _, _]) dX0_become_25 rfl (by decide) rfl ?_
  exact lp1 (nb + 1) 0 _ (cpS.zero hSb (fun a _ => by split <;> rfl)) (by omega) (by omega)
theorem c_X4_refusalOf {d : Nat} {w : mW} {a b : Int32} (hS : Shape w) : mC (d + 1) kX4_refusalOf [.ref 17, .int a, .int b] w (fun r w' => r = some (.int (refE (fld w 18 0) (fld w 18 1) a b)) ∧ w' = w) := by
  unfold refE
  refine mC.of (L := [_, _, _]) okX4_refusalOf 0 rfl rfl ?_
  refine x_iload_n (pc := 0) (i := 2) dX4_refusalOf_0 rfl rfl ?_
  refine x_bipush (pc := 1) (v := 8) dX4_refusalOf_1 (by decide) ?_
  refine x_icmp_ne (pc := 3) (tgt := 23) dX4_refusalOf_3 (by decide) (fun h3 => ?_) (fun h3 => ?_)
  · refine x_iload_n (pc := 23) (i := 2) dX4_refusalOf_23 rfl rfl ?_
    refine x_bipush (pc := 24) (v := 9) dX4_refusalOf_24 (by decide) ?_
    refine x_icmp_eq (pc := 26) (tgt := 43) dX4_refusalOf_26 (by decide) (fun h26 => ?_) (fun h26 => ?_)
    · refine x_aload_n (pc := 43) (i := 0) dX4_refusalOf_43 rfl rfl ?_
      refine x_getR (pc := 44) hS fX4_12 dX4_refusalOf_44 rfl rfl ?_
      refine x_iload_n (pc := 47) (i := 1) dX4_refusalOf_47 rfl rfl ?_
      refine x_vs (pc := 48) (As := [_]) rfl hS lX4_54 dX4_refusalOf_48 rfl rfl (Nat.le_of_ble_eq_true rfl) (c_X0_hasWalker_18 hS) ?_
      rintro _ _ ⟨rfl, hq⟩
      obtain rfl := hq.symm
      refine x_pushI ?_
      refine x_if_eq (pc := 51) (tgt := 58) dX4_refusalOf_51 (by decide) (fun h51 => ?_) (fun h51 => ?_)
      · refine x_iconst (pc := 58) (v := (-1)) dX4_refusalOf_58 (by decide) ?_
        refine x_ri (pc := 59) dX4_refusalOf_59 rfl rfl ?_
        refine ⟨?_, rfl⟩
        rw [if_neg h3, if_pos (by first | exact Or.inl h26 | exact Or.inr (b2_n0.mp h37))]
        first | (have z9 := b2_n0.mp h51; rw [if_pos z9]) | (have z9 := b2_e0.mp h51; rw [if_neg z9])
      · refine x_iconst (pc := 54) (v := 0) dX4_refusalOf_54 (by decide) ?_
        refine x_goto (pc := 55) (tgt := 59) dX4_refusalOf_55 (by decide) ?_
        refine x_ri (pc := 59) dX4_refusalOf_59 rfl rfl ?_
        refine ⟨?_, rfl⟩
        rw [if_neg h3, if_pos (by first | exact Or.inl h26 | exact Or.inr (b2_n0.mp h37))]
        first | (have z9 := b2_n0.mp h51; rw [if_pos z9]) | (have z9 := b2_e0.mp h51; rw [if_neg z9])
    · refine x_aload_n (pc := 29) (i := 0) dX4_refusalOf_29 rfl rfl ?_
      refine x_getR (pc := 30) hS fX4_12 dX4_refusalOf_30 rfl rfl ?_
      refine x_iload_n (pc := 33) (i := 2) dX4_refusalOf_33 rfl rfl ?_
      refine x_vs (pc := 34) (As := [_]) rfl hS lX4_50 dX4_refusalOf_34 rfl rfl (Nat.le_of_ble_eq_true rfl) (c_X0_hasBarrow_18 hS) ?_
      rintro _ _ ⟨rfl, hq⟩
      obtain rfl := hq.symm
      refine x_pushI ?_
      refine x_if_ne (pc := 37) (tgt := 43) dX4_refusalOf_37 (by decide) (fun h37 => ?_) (fun h37 => ?_)
      · refine x_aload_n (pc := 43) (i := 0) dX4_refusalOf_43 rfl rfl ?_
        refine x_getR (pc := 44) hS fX4_12 dX4_refusalOf_44 rfl rfl ?_
        refine x_iload_n (pc := 47) (i := 1) dX4_refusalOf_47 rfl rfl ?_
        refine x_vs (pc := 48) (As := [_]) rfl hS lX4_54 dX4_refusalOf_48 rfl rfl (Nat.le_of_ble_eq_true rfl) (c_X0_hasWalker_18 hS) ?_
        rintro _ _ ⟨rfl, hq⟩
        obtain rfl := hq.symm
        refine x_pushI ?_
        refine x_if_eq (pc := 51) (tgt := 58) dX4_refusalOf_51 (by decide) (fun h51 => ?_) (fun h51 => ?_)
        · refine x_iconst (pc := 58) (v := (-1)) dX4_refusalOf_58 (by decide) ?_
          refine x_ri (pc := 59) dX4_refusalOf_59 rfl rfl ?_
          refine ⟨?_, rfl⟩
          rw [if_neg h3, if_pos (by first | exact Or.inl h26 | exact Or.inr (b2_n0.mp h37))]
          first | (have z9 := b2_n0.mp h51; rw [if_pos z9]) | (have z9 := b2_e0.mp h51; rw [if_neg z9])
        · refine x_iconst (pc := 54) (v := 0) dX4_refusalOf_54 (by decide) ?_
          refine x_goto (pc := 55) (tgt := 59) dX4_refusalOf_55 (by decide) ?_
          refine x_ri (pc := 59) dX4_refusalOf_59 rfl rfl ?_
          refine ⟨?_, rfl⟩
          rw [if_neg h3, if_pos (by first | exact Or.inl h26 | exact Or.inr (b2_n0.mp h37))]
          first | (have z9 := b2_n0.mp h51; rw [if_pos z9]) | (have z9 := b2_e0.mp h51; rw [if_neg z9])
      · refine x_bipush (pc := 40) (v := (-2)) dX4_refusalOf_40 (by decide) ?_
        refine x_ri (pc := 42) dX4_refusalOf_42 rfl rfl ?_
        exact ⟨by have z9 := b2_e0.mp h37; rw [if_neg h3, if_neg (fun z => z.elim h26 z9)], rfl⟩
  · refine x_iload_n (pc := 6) (i := 1) dX4_refusalOf_6 rfl rfl ?_
    refine x_if_lt (pc := 7) (tgt := 16) dX4_refusalOf_7 (by decide) (fun h7 => ?_) (fun h7 => ?_)
    · refine x_bipush (pc := 16) (v := (-2)) dX4_refusalOf_16 (by decide) ?_
      refine x_goto (pc := 18) (tgt := 22) dX4_refusalOf_18 (by decide) ?_
      refine x_ri (pc := 22) dX4_refusalOf_22 rfl rfl ?_
      refine ⟨?_, rfl⟩
      first | (have z9 : a < 0 := h7; rw [if_pos h3, if_neg (fun z => absurd z9 (Int32.not_lt.mpr z.1))]) | (have z9 : a ≤ 9 := h13; rw [if_pos h3, if_pos ⟨Int32.not_lt.mp h7, z9⟩]) | (have z9 : ¬ a ≤ 9 := h13; rw [if_pos h3, if_neg (fun z => z9 z.2)])
    · refine x_iload_n (pc := 10) (i := 1) dX4_refusalOf_10 rfl rfl ?_
      refine x_bipush (pc := 11) (v := 9) dX4_refusalOf_11 (by decide) ?_
      refine x_icmp_le (pc := 13) (tgt := 21) dX4_refusalOf_13 (by decide) (fun h13 => ?_) (fun h13 => ?_)
      · refine x_iconst (pc := 21) (v := 0) dX4_refusalOf_21 (by decide) ?_
        refine x_ri (pc := 22) dX4_refusalOf_22 rfl rfl ?_
        refine ⟨?_, rfl⟩
        first | (have z9 : a < 0 := h7; rw [if_pos h3, if_neg (fun z => absurd z9 (Int32.not_lt.mpr z.1))]) | (have z9 : a ≤ 9 := h13; rw [if_pos h3, if_pos ⟨Int32.not_lt.mp h7, z9⟩]) | (have z9 : ¬ a ≤ 9 := h13; rw [if_pos h3, if_neg (fun z => z9 z.2)])
      · refine x_bipush (pc := 16) (v := (-2)) dX4_refusalOf_16 (by decide) ?_
        refine x_goto (pc := 18) (tgt := 22) dX4_refusalOf_18 (by decide) ?_
        refine x_ri (pc := 22) dX4_refusalOf_22 rfl rfl ?_
        refine ⟨?_, rfl⟩
        first | (have z9 : a < 0 := h7; rw [if_pos h3, if_neg (fun z => absurd z9 (Int32.not_lt.mpr z.1))]) | (have z9 : a ≤ 9 := h13; rw [if_pos h3, if_pos ⟨Int32.not_lt.mp h7, z9⟩]) | (have z9 : ¬ a ≤ 9 := h13; rw [if_pos h3, if_neg (fun z => z9 z.2)])
theorem c_X4_isWhat {d : Nat} {w : mW} {a : Int32} : mC d kX4_isWhat [.int a] w (fun r w' => r = some (.int (b2 ((0 ≤ a ∧ a ≤ 3) ∨ (10 ≤ a ∧ a < 15) ∨ (20 ≤ a ∧ a < 25)))) ∧ w' = w) := by
  refine mC.of (L := [_]) okX4_isWhat 0 rfl rfl ?_
  refine x_iload_n (pc := 0) (i := 0) dX4_isWhat_0 rfl rfl ?_
  refine x_if_lt (pc := 1) (tgt := 9) dX4_isWhat_1 (by decide) (fun h1 => ?_) (fun h1 => ?_)
  · refine x_iload_n (pc := 9) (i := 0) dX4_isWhat_9 rfl rfl ?_
    refine x_bipush (pc := 10) (v := 10) dX4_isWhat_10 (by decide) ?_
    refine x_icmp_lt (pc := 12) (tgt := 21) dX4_isWhat_12 (by decide) (fun h12 => ?_) (fun h12 => ?_)
    · refine x_iload_n (pc := 21) (i := 0) dX4_isWhat_21 rfl rfl ?_
      refine x_bipush (pc := 22) (v := 20) dX4_isWhat_22 (by decide) ?_
      refine x_icmp_lt (pc := 24) (tgt := 37) dX4_isWhat_24 (by decide) (fun h24 => ?_) (fun h24 => ?_)
      · refine x_iconst (pc := 37) (v := 0) dX4_isWhat_37 (by decide) ?_
        refine x_ri (pc := 38) dX4_isWhat_38 rfl rfl ?_
        refine ⟨?_, rfl⟩
        first | (rw [b2_t]; have i15 : (15 : Int32).toInt = 15 := rfl; have i25 : (25 : Int32).toInt = 25 := rfl; (try simp only [b2_e0, b2_n0, Decidable.not_not] at *) <;> (try simp only [i_lt, i_le, i_eq, not_and, not_or, ne_eq, il_0, il_1, il_2, il_3, il_4, il_5, il_6, il_7, il_8, il_9, il_10, il_14, il_15, il_19, il_20, il_24, il_30, il_31, il_44, il_48, il_49, il_52, il_57, il_59, il_60, il_70, il_99, il_100, il_103, il_108, il_114, il_m1, il_m2, il_m3, il_m4, il_m9, il_m10, il_m100] at *) <;> omega; done) | (rw [b2_f]; have i15 : (15 : Int32).toInt = 15 := rfl; have i25 : (25 : Int32).toInt = 25 := rfl; (try simp only [b2_e0, b2_n0, Decidable.not_not] at *) <;> (try simp only [i_lt, i_le, i_eq, not_and, not_or, ne_eq, il_0, il_1, il_2, il_3, il_4, il_5, il_6, il_7, il_8, il_9, il_10, il_14, il_15, il_19, il_20, il_24, il_30, il_31, il_44, il_48, il_49, il_52, il_57, il_59, il_60, il_70, il_99, il_100, il_103, il_108, il_114, il_m1, il_m2, il_m3, il_m4, il_m9, il_m10, il_m100] at *) <;> omega; done)
      · refine x_iload_n (pc := 27) (i := 0) dX4_isWhat_27 rfl rfl ?_
        refine x_bipush (pc := 28) (v := 25) dX4_isWhat_28 (by decide) ?_
        refine x_icmp_ge (pc := 30) (tgt := 37) dX4_isWhat_30 (by decide) (fun h30 => ?_) (fun h30 => ?_)
        · refine x_iconst (pc := 37) (v := 0) dX4_isWhat_37 (by decide) ?_
          refine x_ri (pc := 38) dX4_isWhat_38 rfl rfl ?_
          refine ⟨?_, rfl⟩
          first | (rw [b2_t]; have i15 : (15 : Int32).toInt = 15 := rfl; have i25 : (25 : Int32).toInt = 25 := rfl; (try simp only [b2_e0, b2_n0, Decidable.not_not] at *) <;> (try simp only [i_lt, i_le, i_eq, not_and, not_or, ne_eq, il_0, il_1, il_2, il_3, il_4, il_5, il_6, il_7, il_8, il_9, il_10, il_14, il_15, il_19, il_20, il_24, il_30, il_31, il_44, il_48, il_49, il_52, il_57, il_59, il_60, il_70, il_99, il_100, il_103, il_108, il_114, il_m1, il_m2, il_m3, il_m4, il_m9, il_m10, il_m100] at *) <;> omega; done) | (rw [b2_f]; have i15 : (15 : Int32).toInt = 15 := rfl; have i25 : (25 : Int32).toInt = 25 := rfl; (try simp only [b2_e0, b2_n0, Decidable.not_not] at *) <;> (try simp only [i_lt, i_le, i_eq, not_and, not_or, ne_eq, il_0, il_1, il_2, il_3, il_4, il_5, il_6, il_7, il_8, il_9, il_10, il_14, il_15, il_19, il_20, il_24, il_30, il_31, il_44, il_48, il_49, il_52, il_57, il_59, il_60, il_70, il_99, il_100, il_103, il_108, il_114, il_m1, il_m2, il_m3, il_m4, il_m9, il_m10, il_m100] at *) <;> omega; done)
        · refine x_iconst (pc := 33) (v := 1) dX4_isWhat_33 (by decide) ?_
          refine x_goto (pc := 34) (tgt := 38) dX4_isWhat_34 (by decide) ?_
          refine x_ri (pc := 38) dX4_isWhat_38 rfl rfl ?_
          refine ⟨?_, rfl⟩
          first | (rw [b2_t]; have i15 : (15 : Int32).toInt = 15 := rfl; have i25 : (25 : Int32).toInt = 25 := rfl; (try simp only [b2_e0, b2_n0, Decidable.not_not] at *) <;> (try simp only [i_lt, i_le, i_eq, not_and, not_or, ne_eq, il_0, il_1, il_2, il_3, il_4, il_5, il_6, il_7, il_8, il_9, il_10, il_14, il_15, il_19, il_20, il_24, il_30, il_31, il_44, il_48, il_49, il_52, il_57, il_59, il_60, il_70, il_99, il_100, il_103, il_108, il_114, il_m1, il_m2, il_m3, il_m4, il_m9, il_m10, il_m100] at *) <;> omega; done) | (rw [b2_f]; have i15 : (15 : Int32).toInt = 15 := rfl; have i25 : (25 : Int32).toInt = 25 := rfl; (try simp only [b2_e0, b2_n0, Decidable.not_not] at *) <;> (try simp only [i_lt, i_le, i_eq, not_and, not_or, ne_eq, il_0, il_1, il_2, il_3, il_4, il_5, il_6, il_7, il_8, il_9, il_10, il_14, il_15, il_19, il_20, il_24, il_30, il_31, il_44, il_48, il_49, il_52, il_57, il_59, il_60, il_70, il_99, il_100, il_103, il_108, il_114, il_m1, il_m2, il_m3, il_m4, il_m9, il_m10, il_m100] at *) <;> omega; done)
    · refine x_iload_n (pc := 15) (i := 0) dX4_isWhat_15 rfl rfl ?_
      refine x_bipush (pc := 16) (v := 15) dX4_isWhat_16 (by decide) ?_
      refine x_icmp_lt (pc := 18) (tgt := 33) dX4_isWhat_18 (by decide) (fun h18 => ?_) (fun h18 => ?_)
      · refine x_iconst (pc := 33) (v := 1) dX4_isWhat_33 (by decide) ?_
        refine x_goto (pc := 34) (tgt := 38) dX4_isWhat_34 (by decide) ?_
        refine x_ri (pc := 38) dX4_isWhat_38 rfl rfl ?_
        refine ⟨?_, rfl⟩
        first | (rw [b2_t]; have i15 : (15 : Int32).toInt = 15 := rfl; have i25 : (25 : Int32).toInt = 25 := rfl; (try simp only [b2_e0, b2_n0, Decidable.not_not] at *) <;> (try simp only [i_lt, i_le, i_eq, not_and, not_or, ne_eq, il_0, il_1, il_2, il_3, il_4, il_5, il_6, il_7, il_8, il_9, il_10, il_14, il_15, il_19, il_20, il_24, il_30, il_31, il_44, il_48, il_49, il_52, il_57, il_59, il_60, il_70, il_99, il_100, il_103, il_108, il_114, il_m1, il_m2, il_m3, il_m4, il_m9, il_m10, il_m100] at *) <;> omega; done) | (rw [b2_f]; have i15 : (15 : Int32).toInt = 15 := rfl; have i25 : (25 : Int32).toInt = 25 := rfl; (try simp only [b2_e0, b2_n0, Decidable.not_not] at *) <;> (try simp only [i_lt, i_le, i_eq, not_and, not_or, ne_eq, il_0, il_1, il_2, il_3, il_4, il_5, il_6, il_7, il_8, il_9, il_10, il_14, il_15, il_19, il_20, il_24, il_30, il_31, il_44, il_48, il_49, il_52, il_57, il_59, il_60, il_70, il_99, il_100, il_103, il_108, il_114, il_m1, il_m2, il_m3, il_m4, il_m9, il_m10, il_m100] at *) <;> omega; done)
      · refine x_iload_n (pc := 21) (i := 0) dX4_isWhat_21 rfl rfl ?_
        refine x_bipush (pc := 22) (v := 20) dX4_isWhat_22 (by decide) ?_
        refine x_icmp_lt (pc := 24) (tgt := 37) dX4_isWhat_24 (by decide) (fun h24 => ?_) (fun h24 => ?_)
        · refine x_iconst (pc := 37) (v := 0) dX4_isWhat_37 (by decide) ?_
          refine x_ri (pc := 38) dX4_isWhat_38 rfl rfl ?_
          refine ⟨?_, rfl⟩
          first | (rw [b2_t]; have i15 : (15 : Int32).toInt = 15 := rfl; have i25 : (25 : Int32).toInt = 25 := rfl; (try simp only [b2_e0, b2_n0, Decidable.not_not] at *) <;> (try simp only [i_lt, i_le, i_eq, not_and, not_or, ne_eq, il_0, il_1, il_2, il_3, il_4, il_5, il_6, il_7, il_8, il_9, il_10, il_14, il_15, il_19, il_20, il_24, il_30, il_31, il_44, il_48, il_49, il_52, il_57, il_59, il_60, il_70, il_99, il_100, il_103, il_108, il_114, il_m1, il_m2, il_m3, il_m4, il_m9, il_m10, il_m100] at *) <;> omega; done) | (rw [b2_f]; have i15 : (15 : Int32).toInt = 15 := rfl; have i25 : (25 : Int32).toInt = 25 := rfl; (try simp only [b2_e0, b2_n0, Decidable.not_not] at *) <;> (try simp only [i_lt, i_le, i_eq, not_and, not_or, ne_eq, il_0, il_1, il_2, il_3, il_4, il_5, il_6, il_7, il_8, il_9, il_10, il_14, il_15, il_19, il_20, il_24, il_30, il_31, il_44, il_48, il_49, il_52, il_57, il_59, il_60, il_70, il_99, il_100, il_103, il_108, il_114, il_m1, il_m2, il_m3, il_m4, il_m9, il_m10, il_m100] at *) <;> omega; done)
        · refine x_iload_n (pc := 27) (i := 0) dX4_isWhat_27 rfl rfl ?_
          refine x_bipush (pc := 28) (v := 25) dX4_isWhat_28 (by decide) ?_
          refine x_icmp_ge (pc := 30) (tgt := 37) dX4_isWhat_30 (by decide) (fun h30 => ?_) (fun h30 => ?_)
          · refine x_iconst (pc := 37) (v := 0) dX4_isWhat_37 (by decide) ?_
            refine x_ri (pc := 38) dX4_isWhat_38 rfl rfl ?_
            refine ⟨?_, rfl⟩
            first | (rw [b2_t]; have i15 : (15 : Int32).toInt = 15 := rfl; have i25 : (25 : Int32).toInt = 25 := rfl; (try simp only [b2_e0, b2_n0, Decidable.not_not] at *) <;> (try simp only [i_lt, i_le, i_eq, not_and, not_or, ne_eq, il_0, il_1, il_2, il_3, il_4, il_5, il_6, il_7, il_8, il_9, il_10, il_14, il_15, il_19, il_20, il_24, il_30, il_31, il_44, il_48, il_49, il_52, il_57, il_59, il_60, il_70, il_99, il_100, il_103, il_108, il_114, il_m1, il_m2, il_m3, il_m4, il_m9, il_m10, il_m100] at *) <;> omega; done) | (rw [b2_f]; have i15 : (15 : Int32).toInt = 15 := rfl; have i25 : (25 : Int32).toInt = 25 := rfl; (try simp only [b2_e0, b2_n0, Decidable.not_not] at *) <;> (try simp only [i_lt, i_le, i_eq, not_and, not_or, ne_eq, il_0, il_1, il_2, il_3, il_4, il_5, il_6, il_7, il_8, il_9, il_10, il_14, il_15, il_19, il_20, il_24, il_30, il_31, il_44, il_48, il_49, il_52, il_57, il_59, il_60, il_70, il_99, il_100, il_103, il_108, il_114, il_m1, il_m2, il_m3, il_m4, il_m9, il_m10, il_m100] at *) <;> omega; done)
          · refine x_iconst (pc := 33) (v := 1) dX4_isWhat_33 (by decide) ?_
            refine x_goto (pc := 34) (tgt := 38) dX4_isWhat_34 (by decide) ?_
            refine x_ri (pc := 38) dX4_isWhat_38 rfl rfl ?_
            refine ⟨?_, rfl⟩
            first | (rw [b2_t]; have i15 : (15 : Int32).toInt = 15 := rfl; have i25 : (25 : Int32).toInt = 25 := rfl; (try simp only [b2_e0, b2_n0, Decidable.not_not] at *) <;> (try simp only [i_lt, i_le, i_eq, not_and, not_or, ne_eq, il_0, il_1, il_2, il_3, il_4, il_5, il_6, il_7, il_8, il_9, il_10, il_14, il_15, il_19, il_20, il_24, il_30, il_31, il_44, il_48, il_49, il_52, il_57, il_59, il_60, il_70, il_99, il_100, il_103, il_108, il_114, il_m1, il_m2, il_m3, il_m4, il_m9, il_m10, il_m100] at *) <;> omega; done) | (rw [b2_f]; have i15 : (15 : Int32).toInt = 15 := rfl; have i25 : (25 : Int32).toInt = 25 := rfl; (try simp only [b2_e0, b2_n0, Decidable.not_not] at *) <;> (try simp only [i_lt, i_le, i_eq, not_and, not_or, ne_eq, il_0, il_1, il_2, il_3, il_4, il_5, il_6, il_7, il_8, il_9, il_10, il_14, il_15, il_19, il_20, il_24, il_30, il_31, il_44, il_48, il_49, il_52, il_57, il_59, il_60, il_70, il_99, il_100, il_103, il_108, il_114, il_m1, il_m2, il_m3, il_m4, il_m9, il_m10, il_m100] at *) <;> omega; done)
  · refine x_iload_n (pc := 4) (i := 0) dX4_isWhat_4 rfl rfl ?_
    refine x_iconst (pc := 5) (v := 3) dX4_isWhat_5 (by decide) ?_
    refine x_icmp_le (pc := 6) (tgt := 33) dX4_isWhat_6 (by decide) (fun h6 => ?_) (fun h6 => ?_)
    · refine x_iconst (pc := 33) (v := 1) dX4_isWhat_33 (by decide) ?_
      refine x_goto (pc := 34) (tgt := 38) dX4_isWhat_34 (by decide) ?_
      refine x_ri (pc := 38) dX4_isWhat_38 rfl rfl ?_
      refine ⟨?_, rfl⟩
      first | (rw [b2_t]; have i15 : (15 : Int32).toInt = 15 := rfl; have i25 : (25 : Int32).toInt = 25 := rfl; (try simp only [b2_e0, b2_n0, Decidable.not_not] at *) <;> (try simp only [i_lt, i_le, i_eq, not_and, not_or, ne_eq, il_0, il_1, il_2, il_3, il_4, il_5, il_6, il_7, il_8, il_9, il_10, il_14, il_15, il_19, il_20, il_24, il_30, il_31, il_44, il_48, il_49, il_52, il_57, il_59, il_60, il_70, il_99, il_100, il_103, il_108, il_114, il_m1, il_m2, il_m3, il_m4, il_m9, il_m10, il_m100] at *) <;> omega; done) | (rw [b2_f]; have i15 : (15 : Int32).toInt = 15 := rfl; have i25 : (25 : Int32).toInt = 25 := rfl; (try simp only [b2_e0, b2_n0, Decidable.not_not] at *) <;> (try simp only [i_lt, i_le, i_eq, not_and, not_or, ne_eq, il_0, il_1, il_2, il_3, il_4, il_5, il_6, il_7, il_8, il_9, il_10, il_14, il_15, il_19, il_20, il_24, il_30, il_31, il_44, il_48, il_49, il_52, il_57, il_59, il_60, il_70, il_99, il_100, il_103, il_108, il_114, il_m1, il_m2, il_m3, il_m4, il_m9, il_m10, il_m100] at *) <;> omega; done)
    · refine x_iload_n (pc := 9) (i := 0) dX4_isWhat_9 rfl rfl ?_
      refine x_bipush (pc := 10) (v := 10) dX4_isWhat_10 (by decide) ?_
      refine x_icmp_lt (pc := 12) (tgt := 21) dX4_isWhat_12 (by decide) (fun h12 => ?_) (fun h12 => ?_)
      · refine x_iload_n (pc := 21) (i := 0) dX4_isWhat_21 rfl rfl ?_
        refine x_bipush (pc := 22) (v := 20) dX4_isWhat_22 (by decide) ?_
        refine x_icmp_lt (pc := 24) (tgt := 37) dX4_isWhat_24 (by decide) (fun h24 => ?_) (fun h24 => ?_)
        · refine x_iconst (pc := 37) (v := 0) dX4_isWhat_37 (by decide) ?_
          refine x_ri (pc := 38) dX4_isWhat_38 rfl rfl ?_
          refine ⟨?_, rfl⟩
          first | (rw [b2_t]; have i15 : (15 : Int32).toInt = 15 := rfl; have i25 : (25 : Int32).toInt = 25 := rfl; (try simp only [b2_e0, b2_n0, Decidable.not_not] at *) <;> (try simp only [i_lt, i_le, i_eq, not_and, not_or, ne_eq, il_0, il_1, il_2, il_3, il_4, il_5, il_6, il_7, il_8, il_9, il_10, il_14, il_15, il_19, il_20, il_24, il_30, il_31, il_44, il_48, il_49, il_52, il_57, il_59, il_60, il_70, il_99, il_100, il_103, il_108, il_114, il_m1, il_m2, il_m3, il_m4, il_m9, il_m10, il_m100] at *) <;> omega; done) | (rw [b2_f]; have i15 : (15 : Int32).toInt = 15 := rfl; have i25 : (25 : Int32).toInt = 25 := rfl; (try simp only [b2_e0, b2_n0, Decidable.not_not] at *) <;> (try simp only [i_lt, i_le, i_eq, not_and, not_or, ne_eq, il_0, il_1, il_2, il_3, il_4, il_5, il_6, il_7, il_8, il_9, il_10, il_14, il_15, il_19, il_20, il_24, il_30, il_31, il_44, il_48, il_49, il_52, il_57, il_59, il_60, il_70, il_99, il_100, il_103, il_108, il_114, il_m1, il_m2, il_m3, il_m4, il_m9, il_m10, il_m100] at *) <;> omega; done)
        · refine x_iload_n (pc := 27) (i := 0) dX4_isWhat_27 rfl rfl ?_
          refine x_bipush (pc := 28) (v := 25) dX4_isWhat_28 (by decide) ?_
          refine x_icmp_ge (pc := 30) (tgt := 37) dX4_isWhat_30 (by decide) (fun h30 => ?_) (fun h30 => ?_)
          · refine x_iconst (pc := 37) (v := 0) dX4_isWhat_37 (by decide) ?_
            refine x_ri (pc := 38) dX4_isWhat_38 rfl rfl ?_
            refine ⟨?_, rfl⟩
            first | (rw [b2_t]; have i15 : (15 : Int32).toInt = 15 := rfl; have i25 : (25 : Int32).toInt = 25 := rfl; (try simp only [b2_e0, b2_n0, Decidable.not_not] at *) <;> (try simp only [i_lt, i_le, i_eq, not_and, not_or, ne_eq, il_0, il_1, il_2, il_3, il_4, il_5, il_6, il_7, il_8, il_9, il_10, il_14, il_15, il_19, il_20, il_24, il_30, il_31, il_44, il_48, il_49, il_52, il_57, il_59, il_60, il_70, il_99, il_100, il_103, il_108, il_114, il_m1, il_m2, il_m3, il_m4, il_m9, il_m10, il_m100] at *) <;> omega; done) | (rw [b2_f]; have i15 : (15 : Int32).toInt = 15 := rfl; have i25 : (25 : Int32).toInt = 25 := rfl; (try simp only [b2_e0, b2_n0, Decidable.not_not] at *) <;> (try simp only [i_lt, i_le, i_eq, not_and, not_or, ne_eq, il_0, il_1, il_2, il_3, il_4, il_5, il_6, il_7, il_8, il_9, il_10, il_14, il_15, il_19, il_20, il_24, il_30, il_31, il_44, il_48, il_49, il_52, il_57, il_59, il_60, il_70, il_99, il_100, il_103, il_108, il_114, il_m1, il_m2, il_m3, il_m4, il_m9, il_m10, il_m100] at *) <;> omega; done)
          · refine x_iconst (pc := 33) (v := 1) dX4_isWhat_33 (by decide) ?_
            refine x_goto (pc := 34) (tgt := 38) dX4_isWhat_34 (by decide) ?_
            refine x_ri (pc := 38) dX4_isWhat_38 rfl rfl ?_
            refine ⟨?_, rfl⟩
            first | (rw [b2_t]; have i15 : (15 : Int32).toInt = 15 := rfl; have i25 : (25 : Int32).toInt = 25 := rfl; (try simp only [b2_e0, b2_n0, Decidable.not_not] at *) <;> (try simp only [i_lt, i_le, i_eq, not_and, not_or, ne_eq, il_0, il_1, il_2, il_3, il_4, il_5, il_6, il_7, il_8, il_9, il_10, il_14, il_15, il_19, il_20, il_24, il_30, il_31, il_44, il_48, il_49, il_52, il_57, il_59, il_60, il_70, il_99, il_100, il_103, il_108, il_114, il_m1, il_m2, il_m3, il_m4, il_m9, il_m10, il_m100] at *) <;> omega; done) | (rw [b2_f]; have i15 : (15 : Int32).toInt = 15 := rfl; have i25 : (25 : Int32).toInt = 25 := rfl; (try simp only [b2_e0, b2_n0, Decidable.not_not] at *) <;> (try simp only [i_lt, i_le, i_eq, not_and, not_or, ne_eq, il_0, il_1, il_2, il_3, il_4, il_5, il_6, il_7, il_8, il_9, il_10, il_14, il_15, il_19, il_20, il_24, il_30, il_31, il_44, il_48, il_49, il_52, il_57, il_59, il_60, il_70, il_99, il_100, il_103, il_108, il_114, il_m1, il_m2, il_m3, il_m4, il_m9, il_m10, il_m100] at *) <;> omega; done)
      · refine x_iload_n (pc := 15) (i := 0) dX4_isWhat_15 rfl rfl ?_
        refine x_bipush (pc := 16) (v := 15) dX4_isWhat_16 (by decide) ?_
        refine x_icmp_lt (pc := 18) (tgt := 33) dX4_isWhat_18 (by decide) (fun h18 => ?_) (fun h18 => ?_)
        · refine x_iconst (pc := 33) (v := 1) dX4_isWhat_33 (by decide) ?_
          refine x_goto (pc := 34) (tgt := 38) dX4_isWhat_34 (by decide) ?_
          refine x_ri (pc := 38) dX4_isWhat_38 rfl rfl ?_
          refine ⟨?_, rfl⟩
          first | (rw [b2_t]; have i15 : (15 : Int32).toInt = 15 := rfl; have i25 : (25 : Int32).toInt = 25 := rfl; (try simp only [b2_e0, b2_n0, Decidable.not_not] at *) <;> (try simp only [i_lt, i_le, i_eq, not_and, not_or, ne_eq, il_0, il_1, il_2, il_3, il_4, il_5, il_6, il_7, il_8, il_9, il_10, il_14, il_15, il_19, il_20, il_24, il_30, il_31, il_44, il_48, il_49, il_52, il_57, il_59, il_60, il_70, il_99, il_100, il_103, il_108, il_114, il_m1, il_m2, il_m3, il_m4, il_m9, il_m10, il_m100] at *) <;> omega; done) | (rw [b2_f]; have i15 : (15 : Int32).toInt = 15 := rfl; have i25 : (25 : Int32).toInt = 25 := rfl; (try simp only [b2_e0, b2_n0, Decidable.not_not] at *) <;> (try simp only [i_lt, i_le, i_eq, not_and, not_or, ne_eq, il_0, il_1, il_2, il_3, il_4, il_5, il_6, il_7, il_8, il_9, il_10, il_14, il_15, il_19, il_20, il_24, il_30, il_31, il_44, il_48, il_49, il_52, il_57, il_59, il_60, il_70, il_99, il_100, il_103, il_108, il_114, il_m1, il_m2, il_m3, il_m4, il_m9, il_m10, il_m100] at *) <;> omega; done)
        · refine x_iload_n (pc := 21) (i := 0) dX4_isWhat_21 rfl rfl ?_
          refine x_bipush (pc := 22) (v := 20) dX4_isWhat_22 (by decide) ?_
          refine x_icmp_lt (pc := 24) (tgt := 37) dX4_isWhat_24 (by decide) (fun h24 => ?_) (fun h24 => ?_)
          · refine x_iconst (pc := 37) (v := 0) dX4_isWhat_37 (by decide) ?_
            refine x_ri (pc := 38) dX4_isWhat_38 rfl rfl ?_
            refine ⟨?_, rfl⟩
            first | (rw [b2_t]; have i15 : (15 : Int32).toInt = 15 := rfl; have i25 : (25 : Int32).toInt = 25 := rfl; (try simp only [b2_e0, b2_n0, Decidable.not_not] at *) <;> (try simp only [i_lt, i_le, i_eq, not_and, not_or, ne_eq, il_0, il_1, il_2, il_3, il_4, il_5, il_6, il_7, il_8, il_9, il_10, il_14, il_15, il_19, il_20, il_24, il_30, il_31, il_44, il_48, il_49, il_52, il_57, il_59, il_60, il_70, il_99, il_100, il_103, il_108, il_114, il_m1, il_m2, il_m3, il_m4, il_m9, il_m10, il_m100] at *) <;> omega; done) | (rw [b2_f]; have i15 : (15 : Int32).toInt = 15 := rfl; have i25 : (25 : Int32).toInt = 25 := rfl; (try simp only [b2_e0, b2_n0, Decidable.not_not] at *) <;> (try simp only [i_lt, i_le, i_eq, not_and, not_or, ne_eq, il_0, il_1, il_2, il_3, il_4, il_5, il_6, il_7, il_8, il_9, il_10, il_14, il_15, il_19, il_20, il_24, il_30, il_31, il_44, il_48, il_49, il_52, il_57, il_59, il_60, il_70, il_99, il_100, il_103, il_108, il_114, il_m1, il_m2, il_m3, il_m4, il_m9, il_m10, il_m100] at *) <;> omega; done)
          · refine x_iload_n (pc := 27) (i := 0) dX4_isWhat_27 rfl rfl ?_
            refine x_bipush (pc := 28) (v := 25) dX4_isWhat_28 (by decide) ?_
            refine x_icmp_ge (pc := 30) (tgt := 37) dX4_isWhat_30 (by decide) (fun h30 => ?_) (fun h30 => ?_)
            · refine x_iconst (pc := 37) (v := 0) dX4_isWhat_37 (by decide) ?_
              refine x_ri (pc := 38) dX4_isWhat_38 rfl rfl ?_
              refine ⟨?_, rfl⟩
              first | (rw [b2_t]; have i15 : (15 : Int32).toInt = 15 := rfl; have i25 : (25 : Int32).toInt = 25 := rfl; (try simp only [b2_e0, b2_n0, Decidable.not_not] at *) <;> (try simp only [i_lt, i_le, i_eq, not_and, not_or, ne_eq, il_0, il_1, il_2, il_3, il_4, il_5, il_6, il_7, il_8, il_9, il_10, il_14, il_15, il_19, il_20, il_24, il_30, il_31, il_44, il_48, il_49, il_52, il_57, il_59, il_60, il_70, il_99, il_100, il_103, il_108, il_114, il_m1, il_m2, il_m3, il_m4, il_m9, il_m10, il_m100] at *) <;> omega; done) | (rw [b2_f]; have i15 : (15 : Int32).toInt = 15 := rfl; have i25 : (25 : Int32).toInt = 25 := rfl; (try simp only [b2_e0, b2_n0, Decidable.not_not] at *) <;> (try simp only [i_lt, i_le, i_eq, not_and, not_or, ne_eq, il_0, il_1, il_2, il_3, il_4, il_5, il_6, il_7, il_8, il_9, il_10, il_14, il_15, il_19, il_20, il_24, il_30, il_31, il_44, il_48, il_49, il_52, il_57, il_59, il_60, il_70, il_99, il_100, il_103, il_108, il_114, il_m1, il_m2, il_m3, il_m4, il_m9, il_m10, il_m100] at *) <;> omega; done)
            · refine x_iconst (pc := 33) (v := 1) dX4_isWhat_33 (by decide) ?_
              refine x_goto (pc := 34) (tgt := 38) dX4_isWhat_34 (by decide) ?_
              refine x_ri (pc := 38) dX4_isWhat_38 rfl rfl ?_
              refine ⟨?_, rfl⟩
              first | (rw [b2_t]; have i15 : (15 : Int32).toInt = 15 := rfl; have i25 : (25 : Int32).toInt = 25 := rfl; (try simp only [b2_e0, b2_n0, Decidable.not_not] at *) <;> (try simp only [i_lt, i_le, i_eq, not_and, not_or, ne_eq, il_0, il_1, il_2, il_3, il_4, il_5, il_6, il_7, il_8, il_9, il_10, il_14, il_15, il_19, il_20, il_24, il_30, il_31, il_44, il_48, il_49, il_52, il_57, il_59, il_60, il_70, il_99, il_100, il_103, il_108, il_114, il_m1, il_m2, il_m3, il_m4, il_m9, il_m10, il_m100] at *) <;> omega; done) | (rw [b2_f]; have i15 : (15 : Int32).toInt = 15 := rfl; have i25 : (25 : Int32).toInt = 25 := rfl; (try simp only [b2_e0, b2_n0, Decidable.not_not] at *) <;> (try simp only [i_lt, i_le, i_eq, not_and, not_or, ne_eq, il_0, il_1, il_2, il_3, il_4, il_5, il_6, il_7, il_8, il_9, il_10, il_14, il_15, il_19, il_20, il_24, il_30, il_31, il_44, il_48, il_49, il_52, il_57, il_59, il_60, il_70, il_99, il_100, il_103, il_108, il_114, il_m1, il_m2, il_m3, il_m4, il_m9, il_m10, il_m100] at *) <;> omega; done)
def sumN (f : Nat → Int32) : Nat → Int32
  | 0 => 0
  | k + 1 => sumN f k + f k
theorem sumN_congr {f g : Nat → Int32} : ∀ {n : Nat}, (∀ j, j < n → f j = g j) → sumN f n = sumN g n
  | 0, _ => rfl
  | n + 1, h => by simp only [sumN]; rw [sumN_congr (fun j hj => h j (by omega)), h n (by omega)]
theorem c_X0_meansOfAll {d : Nat} {w : mW} {nw : Nat} (hS : Shape w) (tw : (fld w 18 1).toInt = (nw : Int)) (hnw : nw ≤ 5) : mC d kX0_meansOfAll [.ref 18] w (fun r w' => r = some (.int (sumN (arr w 23) nw)) ∧ w' = w) := by
  have lp : ∀ (m k : Nat), k ≤ nw → nw < k + m → mJ mX0 d kX0_meansOfAll (fun r w' => r = some (.int (sumN (arr w 23) nw)) ∧ w' = w) 4 [.ref 18, .int (sumN (arr w 23) k), .int (nI k)] [] w := by
    intro m
    induction m with
    | zero => intro k h1 h2; omega
    | succ m ih =>
      intro k hk1 hk2
      have tk : (nI k).toInt = (k : Int) := nI_toInt (by omega)
      refine x_iload_n (pc := 4) (i := 2) dX0_meansOfAll_4 rfl rfl ?_
      refine x_aload_n (pc := 5) (i := 0) dX0_meansOfAll_5 rfl rfl ?_
      refine x_getI (pc := 6) hS fX0_43 dX0_meansOfAll_6 rfl rfl ?_
      refine x_icmp_ge (pc := 9) (tgt := 27) dX0_meansOfAll_9 (by decide) (fun h9 => ?_) (fun h9 => ?_)
      · refine x_iload_n (pc := 27) (i := 1) dX0_meansOfAll_27 rfl rfl ?_
        refine x_ri (pc := 28) dX0_meansOfAll_28 rfl rfl ?_
        exact ⟨by rw [show k = nw by (try simp only [b2_e0, b2_n0, Decidable.not_not] at *) <;> (try simp only [i_lt, i_le, i_eq, not_and, not_or, ne_eq, il_0, il_1, il_2, il_3, il_4, il_5, il_6, il_7, il_8, il_9, il_10, il_14, il_15, il_19, il_20, il_24, il_30, il_31, il_44, il_48, il_49, il_52, il_57, il_59, il_60, il_70, il_99, il_100, il_103, il_108, il_114, il_m1, il_m2, il_m3, il_m4, il_m9, il_m10, il_m100] at *) <;> omega], rfl⟩
      · refine x_iload_n (pc := 12) (i := 1) dX0_meansOfAll_12 rfl rfl ?_
        refine x_aload_n (pc := 13) (i := 0) dX0_meansOfAll_13 rfl rfl ?_
        refine x_getR (pc := 14) hS fX0_24 dX0_meansOfAll_14 rfl rfl ?_
        refine x_iload_n (pc := 17) (i := 2) dX0_meansOfAll_17 rfl rfl ?_
        refine x_aldN (pc := 18) hS dX0_meansOfAll_18 rfl (by (try simp only [b2_e0, b2_n0, Decidable.not_not] at *) <;> (try simp only [i_lt, i_le, i_eq, not_and, not_or, ne_eq, il_0, il_1, il_2, il_3, il_4, il_5, il_6, il_7, il_8, il_9, il_10, il_14, il_15, il_19, il_20, il_24, il_30, il_31, il_44, il_48, il_49, il_52, il_57, il_59, il_60, il_70, il_99, il_100, il_103, il_108, il_114, il_m1, il_m2, il_m3, il_m4, il_m9, il_m10, il_m100] at *) <;> omega) (by decide) ?_
        refine x_iadd (pc := 19) dX0_meansOfAll_19 ?_
        refine x_istore_n (pc := 20) (i := 1) (L' := [_, _, _]) dX0_meansOfAll_20 rfl (by decide) rfl ?_
        refine x_iinc (pc := 21) (L' := [_, _, _]) dX0_meansOfAll_21 (by decide) rfl (by first | exact nI_inc _ | rfl) rfl ?_
        refine x_goto (pc := 24) (tgt := 4) dX0_meansOfAll_24 (by decide) ?_
        exact ih (k + 1) (by (try simp only [b2_e0, b2_n0, Decidable.not_not] at *) <;> (try simp only [i_lt, i_le, i_eq, not_and, not_or, ne_eq, il_0, il_1, il_2, il_3, il_4, il_5, il_6, il_7, il_8, il_9, il_10, il_14, il_15, il_19, il_20, il_24, il_30, il_31, il_44, il_48, il_49, il_52, il_57, il_59, il_60, il_70, il_99, il_100, il_103, il_108, il_114, il_m1, il_m2, il_m3, il_m4, il_m9, il_m10, il_m100] at *) <;> omega) (by omega)
  refine mC.of (L := [_, _, _]) okX0_meansOfAll 2 rfl rfl ?_
  refine x_iconst (pc := 0) (v := 0) dX0_meansOfAll_0 (by decide) ?_
  refine x_istore_n (pc := 1) (i := 1) (L' := [_, _, _]) dX0_meansOfAll_1 rfl (by decide) rfl ?_
  refine x_iconst (pc := 2) (v := 0) dX0_meansOfAll_2 (by decide) ?_
  refine x_istore_n (pc := 3) (i := 2) (L' := [_, _, _]) dX0_meansOfAll_3 rfl (by decide) rfl ?_
  exact lp (nw + 1) 0 (by omega) (by omega)

