-- frames: what stays
def Fr (S : List Nat) (w w' : mW) : Prop := ∀ a, a ∉ S → w' a = w a
theorem Fr.rf {S : List Nat} {w : mW} : Fr S w w := fun _ _ => rfl
theorem Fr.ar {S : List Nat} {w w' : mW} (h : Fr S w w') {a : Nat} (ha : a ∉ S) : arr w' a = arr w a := by simp only [arr, h a ha]
theorem Fr.fl {S : List Nat} {w w' : mW} (h : Fr S w w') {a : Nat} (ha : a ∉ S) (k : Nat) : fld w' a k = fld w a k := by simp only [fld, h a ha]
theorem Fr.tr {S : List Nat} {w w' w'' : mW} (h : Fr S w w') (h' : Fr S w' w'') : Fr S w w'' := fun a ha => (h' a ha).trans (h a ha)
theorem Fr.up {S S' : List Nat} {w w' : mW} (h : Fr S w w') (hs : ∀ a ∈ S, a ∈ S') : Fr S' w w' := fun a ha => h a (fun q => ha (hs a q))
theorem setA_ne {w : mW} {a b : Nat} {f : Nat → Int32} (h : b ≠ a) : setA w a f b = w b := by unfold setA; rw [if_neg h]
theorem setF_ne {w : mW} {a b k : Nat} {x : Int32} (h : b ≠ a) : setF w a k x b = w b := by unfold setF; rw [if_neg h]
theorem Fr.stA {S : List Nat} {w w' : mW} (h : Fr S w w') {a : Nat} (ha : a ∈ S) (f : Nat → Int32) : Fr S w (setA w' a f) := fun b hb => (setA_ne (a := a) (b := b) (by rintro rfl; exact hb ha)).trans (h b hb)
theorem Fr.stF {S : List Nat} {w w' : mW} (h : Fr S w w') {a : Nat} (ha : a ∈ S) (k : Nat) (x : Int32) : Fr S w (setF w' a k x) := fun b hb => (setF_ne (a := a) (b := b) (by rintro rfl; exact hb ha)).trans (h b hb)
theorem i_far {a b : Int32} (ha : 0 ≤ a.toInt ∧ a.toInt ≤ 9) (hb : 0 ≤ b.toInt ∧ b.toInt ≤ 9) : (if a < b then b - a else a - b) = farE a b := by
  have h1 : (a - b).toInt = a.toInt - b.toInt := i_sub (by omega) (by omega)
  have h2 : (b - a).toInt = b.toInt - a.toInt := i_sub (by omega) (by omega)
  have h3 : (0 - (a - b) : Int32).toInt = 0 - (a - b).toInt := by
    have := @i_sub 0 (a - b) (by rw [il_0]; omega) (by rw [il_0]; omega)
    rw [il_0] at this; exact this
  unfold farE
  rw [i_eq]
  split <;> split <;> simp only [i_lt, i_le, il_0] at * <;> omega
theorem x_aldN {X : mX} {d : Nat} {M : mM} {Q : Option Value → mW → Prop} {pc : Nat} {L st : List Value} {w : mW} {a n j : Nat} (hS : Shape w) (hd : decode M.2.1 pc = .ok (.iaload, 1)) (ha : mShp[a]? = some (.inl n)) (hj : j < n) (hn : n < 2 ^ 31) (kk : mJ X d M Q (pc + 1) L (.int (arr w a j) :: st) w) : mJ X d M Q pc L (.int (nI j) :: .ref a :: st) w :=
  x_ald hS hd ha (vp_in_nI hj hn) (by rw [nI_clamp (by omega)]; exact kk)
theorem x_astN {X : mX} {d : Nat} {M : mM} {Q : Option Value → mW → Prop} {pc : Nat} {L st : List Value} {w : mW} {a n j : Nat} {x : Int32} (hS : Shape w) (hd : decode M.2.1 pc = .ok (.iastore, 1)) (ha : mShp[a]? = some (.inl n)) (hj : j < n) (hn : n < 2 ^ 31) (kk : Shape (setA w a (upd (arr w a) j x)) → mJ X d M Q (pc + 1) L st (setA w a (upd (arr w a) j x))) : mJ X d M Q pc L (.int x :: .int (nI j) :: .ref a :: st) w :=
  x_ast hS hd ha (vp_in_nI hj hn) (by rw [nI_clamp (by omega)]; exact kk)

