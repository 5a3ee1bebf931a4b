theorem mShF_inv : ∀ {fs : List (Option Nat)} {vs : List Value} {k : Nat} {y : Int32}, mShF fs vs → vs[k]? = some (.int y) → fs[k]? = some none
  | [], [], k, y, _, h => by simp at h
  | [], v :: vs, k, y, hs, h => by exact absurd hs (by simp [mShF])
  | some r :: fs, v :: vs, 0, y, hs, h => by simp at h; rw [h] at hs; exact absurd hs.1 (by simp)
  | some r :: fs, v :: vs, k + 1, y, hs, h => by simpa using mShF_inv hs.2 (by simpa using h)
  | none :: fs, v :: vs, 0, y, hs, h => rfl
  | none :: fs, v :: vs, k + 1, y, hs, h => by simpa using mShF_inv hs.2 (by simpa using h)
  | some r :: fs, [], k, y, hs, h => by exact absurd hs (by simp [mShF])
  | none :: fs, [], k, y, hs, h => by exact absurd hs (by simp [mShF])
theorem Shape.fldR {w : mW} (h : Shape w) {a ci k : Nat} {fs : List (Option Nat)} (hs : mShp[a]? = some (.inr (ci, fs))) (hk : ¬ fs[k]? = some none) : fld w a k = 0 := by
  obtain ⟨vs, hv, hm⟩ := h.obj hs
  unfold fld
  rw [hv]
  show (match vs[k]? with
    | some (.int x) => x
    | _ => 0) = 0
  split
  · rename_i x hx
    exact absurd (mShF_inv hm hx) hk
  · rfl
theorem Shape.arr0 {w : mW} (h : Shape w) {a ci : Nat} {fs : List (Option Nat)} (hs : mShp[a]? = some (.inr (ci, fs))) : arr w a = fun _ => 0 := by
  obtain ⟨vs, hv, hm⟩ := h.obj hs
  unfold arr
  rw [hv]
theorem Fr.gr2 {S : List Nat} {o ci : Nat} {fs : List (Option Nat)} {F : List (Nat × Nat)} {w w' : mW} (h : Fr (o :: S) w w') (hS : Shape w) (hS' : Shape w') (hA : ∀ a ∈ S, ∃ n, mShp[a]? = some (.inl n)) (ho : mShp[o]? = some (.inr (ci, fs))) (hF : ∀ k, fs[k]? = some none → (o, k) ∉ F → fld w' o k = fld w o k) : Gr S F w w' := by
  refine ⟨fun a ha => ?_, fun a k hk => ?_⟩
  · by_cases hao : a = o
    · subst hao; rw [hS.arr0 ho, hS'.arr0 ho]
    · exact h.ar (fun q => (List.mem_cons.mp q).elim hao ha)
  · by_cases hao : a = o
    · subst hao
      by_cases hk2 : fs[k]? = some none
      · exact hF k hk2 hk
      · rw [hS.fldR ho hk2, hS'.fldR ho hk2]
    · by_cases ha : a ∈ S
      · obtain ⟨n, hn⟩ := hA a ha
        rw [hS.fld0 hn, hS'.fld0 hn]
      · exact h.fl (fun q => (List.mem_cons.mp q).elim hao ha) k
theorem noInt12 (k : Nat) : ¬ ([none, none, none, some 8, some 9, some 10, some 11, some 12, some 13, some 14, some 15, some 16] : List (Option Nat))[k + 3]? = some none := by
  match k with
  | 0 | 1 | 2 | 3 | 4 | 5 | 6 | 7 | 8 => simp
  | k + 9 => simp
theorem DI.ch2 {nb nw : Nat} {w w' : mW} (h : DI nb nw w) (g : Gr [10, 12, 13, 15, 16, 50, 52, 53, 55, 56, 63] [(7, 2), (44, 7)] w w') (h10 : arr w' 50 = arr w' 10) (h12 : arr w' 52 = arr w' 12) (h13 : arr w' 53 = arr w' 13) (h15 : arr w' 55 = arr w' 15) (h16 : arr w' 56 = arr w' 16) (hn : fld w' 44 7 = fld w' 7 2) (hB : BarOK nb (arr w 8) (arr w 9) (arr w' 10) (arr w 11)) (hW : WalOK nb nw (arr w' 12) (arr w' 13) (arr w 14) (arr w' 15)) : DI nb nw w' := by
  unfold DI at *
  rw [g.1 8 (by decide), g.1 9 (by decide), g.1 11 (by decide), g.1 14 (by decide), g.1 48 (by decide), g.1 49 (by decide), g.1 51 (by decide), g.1 54 (by decide), g.2 7 0 (by decide), g.2 7 1 (by decide), g.2 44 5 (by decide), g.2 44 6 (by decide)]
  obtain ⟨h1, h2, h3, tb, tw, _, _, ⟨e1, e2, e3⟩, f8, f9, f10, f11, f12, f13, f14, f15, f16⟩ := h
  exact ⟨h1, h2, h3, tb, tw, hB, hW, ⟨e1, e2, hn⟩, f8, f9, h10, f11, h12, h13, f14, h15, h16⟩
theorem nLo_ok {NB : Int32} {pe me lo : Nat → Int32} {nw k : Nat} (h : ∀ j, j < nw → lo j = -9 ∨ inB NB lo j) : ∀ j, j < nw → nLo NB pe me lo k j = -9 ∨ inB NB (nLo NB pe me lo k) j := by
  intro j hj
  unfold inB nLo
  split
  · exact Or.inl rfl
  · exact h j hj
theorem c_X8_night_out {d : Nat} {w : mW} {n : Int32} (hS : Shape w) (h : ¬ (1 ≤ n ∧ n ≤ 30)) : mC (d + 1) kX8_night [.ref 44, .int n] w (fun r w' => r = some (.int (-2)) ∧ w' = w) := by
  refine mC.of (L := [_, _, _, _]) okX8_night 2 rfl rfl ?_
  refine x_iload_n (pc := 0) (i := 1) dX8_night_0 rfl rfl ?_
  refine x_iconst (pc := 1) (v := 1) dX8_night_1 (by decide) ?_
  refine x_bipush (pc := 2) (v := 30) dX8_night_2 (by decide) ?_
  refine x_ss (pc := 4) (As := [_, _, _]) rfl lX8_88 dX8_night_4 rfl (Nat.le_of_ble_eq_true rfl) c_X8_within ?_
  rintro _ _ ⟨rfl, hq⟩
  obtain rfl := hq.symm
  refine x_pushI ?_
  refine x_if_ne (pc := 7) (tgt := 13) dX8_night_7 (by decide) (fun h7 => absurd h7 (by rw [b2_n0]; exact h)) (fun h7 => ?_)
  refine x_bipush (pc := 10) (v := (-2)) dX8_night_10 (by decide) ?_
  refine x_ri (pc := 12) dX8_night_12 rfl rfl ?_
  exact ⟨rfl, rfl⟩
theorem c_X8_night_no {d : Nat} {w : mW} {n : Int32} (hS : Shape w) (h : 1 ≤ n ∧ n ≤ 30) (h0 : fld w 44 5 = 0) : mC (d + 1) kX8_night [.ref 44, .int n] w (fun r w' => r = some (.int (-3)) ∧ w' = w) := by
  refine mC.of (L := [_, _, _, _]) okX8_night 2 rfl rfl ?_
  refine x_iload_n (pc := 0) (i := 1) dX8_night_0 rfl rfl ?_
  refine x_iconst (pc := 1) (v := 1) dX8_night_1 (by decide) ?_
  refine x_bipush (pc := 2) (v := 30) dX8_night_2 (by decide) ?_
  refine x_ss (pc := 4) (As := [_, _, _]) rfl lX8_88 dX8_night_4 rfl (Nat.le_of_ble_eq_true rfl) c_X8_within ?_
  rintro _ _ ⟨rfl, hq⟩
  obtain rfl := hq.symm
  refine x_pushI ?_
  refine x_if_ne (pc := 7) (tgt := 13) dX8_night_7 (by decide) (fun h7 => ?_) (fun h7 => absurd h7 (by rw [b2_n0]; exact h))
  refine x_aload_n (pc := 13) (i := 0) dX8_night_13 rfl rfl ?_
  refine x_getI (pc := 14) hS fX8_92 dX8_night_14 rfl rfl ?_
  refine x_if_ne (pc := 17) (tgt := 23) dX8_night_17 (by decide) (fun h17 => absurd h17 (by exact not_not_intro h0)) (fun h17 => ?_)
  refine x_bipush (pc := 20) (v := (-3)) dX8_night_20 (by decide) ?_
  refine x_ri (pc := 22) dX8_night_22 rfl rfl ?_
  exact ⟨rfl, rfl⟩
theorem c_X8_night {d : Nat} {w0 : mW} {N nb nw : Nat} (hS0 : Shape w0) (tb : (fld w0 44 5).toInt = (nb : Int)) (hnb : nb ≤ 5) (tw : (fld w0 44 6).toInt = (nw : Int)) (hnw : nw ≤ 5) (h0 : ¬ fld w0 44 5 = 0) (hN1 : 1 ≤ N) (hN : N ≤ 30) (hlo0 : ∀ j, j < nw → arr w0 55 j = -9 ∨ inB (fld w0 44 5) (arr w0 55) j) : mC (d + 1) kX8_night [.ref 44, .int (nI N)] w0 (fun r w' => r = some (.int (nI (nOut (fld w0 44 5) (arr w0 50) nw N (arr w0 52, arr w0 55, arr w0 56)))) ∧ ∃ w3, NsAt (fld w0 44 5) nw 63 50 52 55 56 w0 N w3 ∧ w' = setF w3 44 7 (fld w0 44 7 + nI N)) := by
  have tN : (nI N).toInt = (N : Int) := nI_toInt (by omega)
  have lp : ∀ (m t : Nat) (w : mW), NsAt (fld w0 44 5) nw 63 50 52 55 56 w0 t w → (∀ j, j < nw → arr w 55 j = -9 ∨ inB (fld w0 44 5) (arr w 55) j) → t ≤ N → N < t + m → mJ mX0 (d + 1) kX8_night (fun r w' => r = some (.int (nI (nOut (fld w0 44 5) (arr w0 50) nw N (arr w0 52, arr w0 55, arr w0 56)))) ∧ ∃ w3, NsAt (fld w0 44 5) nw 63 50 52 55 56 w0 N w3 ∧ w' = setF w3 44 7 (fld w0 44 7 + nI N)) 27 [.ref 44, .int (nI N), .int (nI (nOut (fld w0 44 5) (arr w0 50) nw t (arr w0 52, arr w0 55, arr w0 56))), .int (nI t)] [] w := by
    intro m
    induction m with
    | zero => intro t w _ _ h1 h2; omega
    | succ m ih =>
      intro t w hA hlo ht1 ht2
      have hS := hA.1
      have tt : (nI t).toInt = (t : Int) := nI_toInt (by omega)
      have eb : fld w 44 5 = fld w0 44 5 := hA.2.1.fl (by decide) 5
      have ew : fld w 44 6 = fld w0 44 6 := hA.2.1.fl (by decide) 6
      refine x_iload_n (pc := 27) (i := 3) dX8_night_27 rfl rfl ?_
      refine x_iload_n (pc := 28) (i := 1) dX8_night_28 rfl rfl ?_
      refine x_icmp_ge (pc := 29) (tgt := 45) dX8_night_29 (by decide) (fun h29 => ?_) (fun h29 => ?_)
      · refine x_aload_n (pc := 45) (i := 0) dX8_night_45 rfl rfl ?_
        refine x_dup (pc := 46) dX8_night_46 rfl ?_
        refine x_getI (pc := 47) hS fX8_128 dX8_night_47 rfl rfl ?_
        refine x_iload_n (pc := 50) (i := 1) dX8_night_50 rfl rfl ?_
        refine x_iadd (pc := 51) dX8_night_51 ?_
        refine x_putI (pc := 52) hS fX8_128 dX8_night_52 rfl rfl rfl rfl (fun hS => ?_)
        refine x_iload_n (pc := 55) (i := 2) dX8_night_55 rfl rfl ?_
        refine x_ri (pc := 56) dX8_night_56 rfl rfl ?_
        have e := show t = N by (try simp only [b2_e0, b2_n0, Decidable.not_not] at *) <;> (try simp only [i_lt, i_le, i_eq, not_and, not_or, ne_eq, il_0, il_1, il_2, il_3, il_4, il_5, il_6, il_7, il_8, il_9, il_10, il_14, il_15, il_19, il_20, il_24, il_30, il_31, il_44, il_48, il_49, il_52, il_57, il_59, il_60, il_70, il_99, il_100, il_103, il_108, il_114, il_m1, il_m2, il_m3, il_m4, il_m9, il_m10, il_m100] at *) <;> omega
        subst e
        exact ⟨rfl, w, hA, by rw [hA.2.1.fl (by decide)]⟩
      · refine x_iload_n (pc := 32) (i := 2) dX8_night_32 rfl rfl ?_
        refine x_aload_n (pc := 33) (i := 0) dX8_night_33 rfl rfl ?_
        refine x_vs (pc := 34) (As := []) rfl hS lX8_180 dX8_night_34 rfl rfl (Nat.le_of_ble_eq_true rfl) (c_X8_goNight hS (by rw [eb]; exact tb) hnb (by rw [ew]; exact tw) hnw (by rw [eb]; exact hlo)) ?_
        rintro _ w1 ⟨rfl, hN⟩
        rw [eb] at hN ⊢
        have hS := hN.1
        refine x_pushI ?_
        refine x_iadd (pc := 37) dX8_night_37 ?_
        rw [nI_add, hA.out (by decide)]
        refine x_istore_n (pc := 38) (i := 2) (L' := [_, _, _, _]) dX8_night_38 rfl (by decide) rfl ?_
        refine x_iinc (pc := 39) (L' := [_, _, _, _]) dX8_night_39 (by decide) rfl (by first | exact nI_inc _ | rfl) rfl ?_
        refine x_goto (pc := 42) (tgt := 27) dX8_night_42 (by decide) ?_
        exact ih (t + 1) w1 (hA.step (by decide) hN hS Fr.rf (by decide)) (by rw [hN.2.2.2.1]; exact nLo_ok hlo) (by (try simp only [b2_e0, b2_n0, Decidable.not_not] at *) <;> (try simp only [i_lt, i_le, i_eq, not_and, not_or, ne_eq, il_0, il_1, il_2, il_3, il_4, il_5, il_6, il_7, il_8, il_9, il_10, il_14, il_15, il_19, il_20, il_24, il_30, il_31, il_44, il_48, il_49, il_52, il_57, il_59, il_60, il_70, il_99, il_100, il_103, il_108, il_114, il_m1, il_m2, il_m3, il_m4, il_m9, il_m10, il_m100] at *) <;> omega) (by omega)
  have hS := hS0
  refine mC.of (L := [_, _, _, _]) okX8_night 2 rfl rfl ?_
  refine x_iload_n (pc := 0) (i := 1) dX8_night_0 rfl rfl ?_
  refine x_iconst (pc := 1) (v := 1) dX8_night_1 (by decide) ?_
  refine x_bipush (pc := 2) (v := 30) dX8_night_2 (by decide) ?_
  refine x_ss (pc := 4) (As := [_, _, _]) rfl lX8_88 dX8_night_4 rfl (Nat.le_of_ble_eq_true rfl) c_X8_within ?_
  rintro _ _ ⟨rfl, hq⟩
  obtain rfl := hq.symm
  refine x_pushI ?_
  refine x_if_ne (pc := 7) (tgt := 13) dX8_night_7 (by decide) (fun h7 => ?_) (fun h7 => absurd h7 (by rw [b2_n0]; (try simp only [b2_e0, b2_n0, Decidable.not_not] at *) <;> (try simp only [i_lt, i_le, i_eq, not_and, not_or, ne_eq, il_0, il_1, il_2, il_3, il_4, il_5, il_6, il_7, il_8, il_9, il_10, il_14, il_15, il_19, il_20, il_24, il_30, il_31, il_44, il_48, il_49, il_52, il_57, il_59, il_60, il_70, il_99, il_100, il_103, il_108, il_114, il_m1, il_m2, il_m3, il_m4, il_m9, il_m10, il_m100] at *) <;> omega))
  refine x_aload_n (pc := 13) (i := 0) dX8_night_13 rfl rfl ?_
  refine x_getI (pc := 14) hS fX8_92 dX8_night_14 rfl rfl ?_
  refine x_if_ne (pc := 17) (tgt := 23) dX8_night_17 (by decide) (fun h17 => ?_) (fun h17 => absurd h17 (by exact h0))
  refine x_iconst (pc := 23) (v := 0) dX8_night_23 (by decide) ?_
  refine x_istore_n (pc := 24) (i := 2) (L' := [_, _, _, _]) dX8_night_24 rfl (by decide) rfl ?_
  refine x_iconst (pc := 25) (v := 0) dX8_night_25 (by decide) ?_
  refine x_istore_n (pc := 26) (i := 3) (L' := [_, _, _, _]) dX8_night_26 rfl (by decide) rfl ?_
  exact lp (N + 1) 0 w0 (NsAt.zero hS) hlo0 (by omega) (by omega)
theorem nSt_ok {NB : Int32} {pe : Nat → Int32} {nb nw : Nat} {pl re : Nat → Int32} (hx : NB.toInt = (nb : Int)) (hnb : nb ≤ 5) (hpe : ∀ j, j < nb → 0 ≤ (pe j).toInt ∧ (pe j).toInt ≤ 9) (s : A3) (h : WalOK nb nw s.1 pl re s.2.1) : ∀ t, WalOK nb nw (nSt NB pe nw t s).1 pl re (nSt NB pe nw t s).2.1
  | 0 => h
  | t + 1 => by
    have ih := nSt_ok hx hnb hpe s h t
    intro j hj
    obtain ⟨a, b, c, e⟩ := ih j hj
    refine ⟨?_, b, c, ?_⟩
    · show 0 ≤ (nMe NB pe (nSt NB pe nw t s).1 (nSt NB pe nw t s).2.1 nw j).toInt ∧ (nMe NB pe (nSt NB pe nw t s).1 (nSt NB pe nw t s).2.1 nw j).toInt ≤ 99
      unfold nMe
      split
      · rename_i hq
        obtain ⟨_, ⟨q1, q2⟩, q3⟩ := hq
        have h5 := i_le.mp q1
        have h6 := i_lt.mp q2
        rw [il_0] at h5
        have h7 := hpe ((nSt NB pe nw t s).2.1 j).toNatClampNeg (by rw [i_clamp]; omega)
        have h8 := i_le.mp q3
        rw [i_sub (by omega) (by omega)]
        omega
      · exact a
    · show nLo NB pe (nSt NB pe nw t s).1 (nSt NB pe nw t s).2.1 nw j = -9 ∨ _
      unfold nLo
      split
      · exact Or.inl rfl
      · rename_i hq
        rcases e with e | ⟨b', hb', e⟩
        · exact Or.inl e
        · refine Or.inr ⟨b', hb', ?_⟩
          show nLo NB pe (nSt NB pe nw t s).1 (nSt NB pe nw t s).2.1 nw j = nI b'
          unfold nLo
          rw [if_neg hq]; exact e
theorem both_night {w : mW} (hI : Inv w) (n : Int32) : Both kX7_night kX8_night [.int n] w := by
  intro d
  obtain ⟨hS, nb, nw, nr, hD, hR, hSI, hT⟩ := id hI; obtain ⟨h1, h2, h3, tb, tw, hB, hW, ⟨e1, e2, e3⟩, f8, f9, f10, f11, f12, f13, f14, f15, f16⟩ := id hD
  by_cases hn : 1 ≤ n ∧ n ≤ 30
  · by_cases h0 : 0 < fld w 7 0
    · obtain ⟨N, hN1, rfl⟩ : ∃ N : Nat, N ≤ 30 ∧ n = nI N := nI_of2 (M := 30) (n := 30) rfl (by (try simp only [b2_e0, b2_n0, Decidable.not_not] at *) <;> (try simp only [i_lt, i_le, i_eq, not_and, not_or, ne_eq, il_0, il_1, il_2, il_3, il_4, il_5, il_6, il_7, il_8, il_9, il_10, il_14, il_15, il_19, il_20, il_24, il_30, il_31, il_44, il_48, il_49, il_52, il_57, il_59, il_60, il_70, il_99, il_100, il_103, il_108, il_114, il_m1, il_m2, il_m3, il_m4, il_m9, il_m10, il_m100] at *) <;> omega) hn.2
      have hN0 : 1 ≤ N := by
        have := hn.1
        rw [i_le, nI_toInt (by omega), il_1] at this
        omega
      refine mC.mono (c_X7_night (d := d + 17) hS tb h1 tw h2 h0 hN0 hN1) ?_
      rintro _ w1 ⟨rfl, hA, q1, q2, q3⟩
      have hS1 := hA.1
      have hF := hA.2.1
      refine mC.mono (c_X8_night (d := d + 19) (w0 := w1) (N := N) hS1 (by rw [hF.fl (by decide), e1]; exact tb) h1 (by rw [hF.fl (by decide), e2]; exact tw) h2 (by rw [hF.fl (by decide), e1]; (try simp only [b2_e0, b2_n0, Decidable.not_not] at *) <;> (try simp only [i_lt, i_le, i_eq, not_and, not_or, ne_eq, il_0, il_1, il_2, il_3, il_4, il_5, il_6, il_7, il_8, il_9, il_10, il_14, il_15, il_19, il_20, il_24, il_30, il_31, il_44, il_48, il_49, il_52, il_57, il_59, il_60, il_70, il_99, il_100, il_103, il_108, il_114, il_m1, il_m2, il_m3, il_m4, il_m9, il_m10, il_m100] at *) <;> omega) hN0 hN1 (by
        intro j hj
        rw [hF.ar (by decide), f15, hF.fl (by decide), e1]
        rcases lo_or hW tb h1 hj with q | q
        · exact Or.inl q.1
        · exact Or.inr q.2)) ?_
      rw [hF.ar (a := 50) (by decide), hF.ar (a := 52) (by decide), hF.ar (a := 55) (by decide), hF.ar (a := 56) (by decide), hF.fl (a := 44) (by decide) 5, hF.fl (a := 44) (by decide) 7, f10, f12, f15, f16, e1, e3]
      rintro _ w2 ⟨rfl, w3, hA3, hq⟩
      have hS3 := hA3.1
      have hF3 := hA3.2.1
      have h3a := hA.2.2
      have h3b := hA3.2.2
      rw [hF.ar (a := 50) (by decide), hF.ar (a := 52) (by decide), hF.ar (a := 55) (by decide), hF.ar (a := 56) (by decide), f10, f12, f15, f16] at h3b
      have g1 : Gr [12, 15, 16] [(7, 2)] w w1 := hF.gr2 hS hS1 (by intro a ha; simp at ha; rcases ha with h | h | h <;> subst h <;> exact ⟨_, rfl⟩) rfl (by
        intro k hk hn
        match k, hk, hn with
        | 0, _, _ => exact q1
        | 1, _, _ => exact q2
        | 2, _, hn => exact absurd (by decide) hn
        | k + 3, hk, _ => exact absurd hk (noInt12 k))
      have g3 : Gr [52, 55, 56, 63] [] w1 w3 := hF3.gr hS1 hS3 (by intro a ha; simp at ha; rcases ha with h | h | h | h <;> subst h <;> exact ⟨_, rfl⟩) |>.up (by decide) (by decide)
      have g2 : Gr [52, 55, 56, 63] [(44, 7)] w1 w2 := by rw [hq]; exact (g3.up (by decide) (by decide)).stF (by decide) _
      have hS2 : Shape w2 := by rw [hq]; exact hS3.stF rfl rfl _
      have g : Gr [12, 15, 16, 52, 55, 56, 63] [(7, 2), (44, 7)] w w2 := (g1.up (by decide) (by decide)).tr (g2.up (by decide) (by decide))
      have a12 : arr w2 12 = arr w1 12 := g2.1 12 (by decide)
      have a15 : arr w2 15 = arr w1 15 := g2.1 15 (by decide)
      have a16 : arr w2 16 = arr w1 16 := g2.1 16 (by decide)
      have b52 : arr w2 52 = arr w3 52 := by rw [hq, arr_setF]
      have b55 : arr w2 55 = arr w3 55 := by rw [hq, arr_setF]
      have b56 : arr w2 56 = arr w3 56 := by rw [hq, arr_setF]
      rw [← h3a] at h3b
      have c52 : arr w3 52 = arr w1 12 := congrArg (fun z => z.1) h3b
      have c55 : arr w3 55 = arr w1 15 := congrArg (fun z => z.2.1) h3b
      have c56 : arr w3 56 = arr w1 16 := congrArg (fun z => z.2.2) h3b
      have w12 : arr w1 12 = (nSt (fld w 7 0) (arr w 10) nw N (arr w 12, arr w 15, arr w 16)).1 := congrArg (fun z => z.1) h3a
      have w15 : arr w1 15 = (nSt (fld w 7 0) (arr w 10) nw N (arr w 12, arr w 15, arr w 16)).2.1 := congrArg (fun z => z.2.1) h3a
      have gd : Gr [10, 12, 13, 15, 16, 50, 52, 53, 55, 56, 63] [(7, 2), (44, 7)] w w2 := g.up (by decide) (by decide)
      refine ⟨rfl, hS2, nb, nw, nr, hD.ch2 gd ?_ ?_ ?_ ?_ ?_ ?_ ?_ ?_, hR.gr g (by decide) (by decide), hSI.gr g (by decide), hT.gr g (by decide)⟩
      · rw [g.1 50 (by decide), g.1 10 (by decide), f10]
      · rw [b52, c52, a12]
      · rw [g.1 53 (by decide), g.1 13 (by decide), f13]
      · rw [b55, c55, a15]
      · rw [b56, c56, a16]
      · rw [g2.2 7 2 (by decide), q3, hq, fld_setF hS3 rfl rfl]
      · rw [g.1 10 (by decide)]; exact hB
      · rw [a12, a15, g.1 13 (by decide), w12, w15]
        exact nSt_ok tb h1 (fun j hj => (hB j hj).2.2.1) _ hW N
    · refine mC.mono (c_X7_night_no (d := d + 19) hS hn h0) ?_
      rintro _ _ ⟨rfl, hq⟩; obtain rfl := hq.symm
      refine mC.mono (c_X8_night_no (d := d + 19) hS hn (by rw [e1]; (try simp only [b2_e0, b2_n0, Decidable.not_not] at *) <;> (try simp only [i_lt, i_le, i_eq, not_and, not_or, ne_eq, il_0, il_1, il_2, il_3, il_4, il_5, il_6, il_7, il_8, il_9, il_10, il_14, il_15, il_19, il_20, il_24, il_30, il_31, il_44, il_48, il_49, il_52, il_57, il_59, il_60, il_70, il_99, il_100, il_103, il_108, il_114, il_m1, il_m2, il_m3, il_m4, il_m9, il_m10, il_m100] at *) <;> omega)) ?_
      rintro _ _ ⟨rfl, hq⟩; obtain rfl := hq.symm
      exact ⟨rfl, hI⟩
  · refine mC.mono (c_X7_night_out (d := d + 19) hS hn) ?_
    rintro _ _ ⟨rfl, hq⟩; obtain rfl := hq.symm
    refine mC.mono (c_X8_night_out (d := d + 19) hS hn) ?_
    rintro _ _ ⟨rfl, hq⟩; obtain rfl := hq.symm
    exact ⟨rfl, hI⟩

