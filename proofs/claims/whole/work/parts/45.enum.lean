/-! ALL ROWS: walked by numbers (the reference) and by walkers (the class) -/
def foldN {S : Type} (g : Nat → S → S) : Nat → S → S
  | 0, s => s
  | k + 1, s => g k (foldN g k s)
theorem foldN_congr {S : Type} {g g' : Nat → S → S} : ∀ {n : Nat} {s : S}, (∀ k, k < n → ∀ s, g k s = g' k s) → foldN g n s = foldN g' n s
  | 0, _, _ => rfl
  | n + 1, s, h => by
    simp only [foldN]
    rw [foldN_congr (n := n) (s := s) (fun k hk s => h k (by omega) s), h n (by omega)]
theorem foldN_id {S : Type} {g : Nat → S → S} {s : S} : ∀ {n : Nat}, (∀ k, k < n → g k s = s) → foldN g n s = s
  | 0, _ => rfl
  | n + 1, h => by
    simp only [foldN]
    rw [foldN_id (n := n) (fun k hk => h k (by omega)), h n (by omega)]
theorem foldN_pres {S : Type} {g : Nat → S → S} {p : S → Prop} : ∀ {n : Nat} {s : S}, p s → (∀ k, k < n → ∀ s, p s → p (g k s)) → p (foldN g n s)
  | 0, _, h, _ => h
  | n + 1, s, h, hg => hg n (by omega) _ (foldN_pres (n := n) h (fun k hk s hs => hg k (by omega) s hs))
theorem foldN_add {S : Type} (g : Nat → S → S) (a : Nat) : ∀ (k : Nat) (s : S), foldN g (a + k) s = foldN (fun i => g (a + i)) k (foldN g a s)
  | 0, _ => rfl
  | k + 1, s => by
    show g (a + k) (foldN g (a + k) s) = _
    rw [foldN_add g a k s]; rfl
theorem foldN_mul {S : Type} (g : Nat → S → S) (b : Nat) : ∀ (a : Nat) (s : S), foldN g (a * b) s = foldN (fun q s => foldN (fun c s => g (q * b + c) s) b s) a s
  | 0, s => by rw [Nat.zero_mul]; rfl
  | a + 1, s => by
    rw [Nat.succ_mul, foldN_add, foldN_mul g b a s]
    rfl
def ud (ρ : Nat → Nat) (j c : Nat) : Nat → Nat := fun i => if i = j then c else ρ i
theorem ud_eq {ρ : Nat → Nat} {j c : Nat} : ud ρ j c j = c := if_pos rfl
theorem ud_ne {ρ : Nat → Nat} {j c i : Nat} (h : i ≠ j) : ud ρ j c i = ρ i := if_neg h
def enum {S : Type} (B : Nat) (f : (Nat → Nat) → S → S) : Nat → Nat → (Nat → Nat) → S → S
  | 0, _, ρ, s => f ρ s
  | m + 1, j, ρ, s => foldN (fun c s => enum B f m (j + 1) (ud ρ j c) s) B s
def extN {S : Type} (n : Nat) (f : (Nat → Nat) → S → S) : Prop := ∀ ρ ρ' s, (∀ i, i < n → ρ i = ρ' i) → f ρ s = f ρ' s
theorem enum_ext {S : Type} {B n : Nat} {f : (Nat → Nat) → S → S} (hf : extN n f) : ∀ {m j : Nat} {ρ ρ' : Nat → Nat} {s : S}, j + m = n → (∀ i, i < j → ρ i = ρ' i) → enum B f m j ρ s = enum B f m j ρ' s
  | 0, j, ρ, ρ', s, h, e => hf ρ ρ' s (fun i hi => e i (by omega))
  | m + 1, j, ρ, ρ', s, h, e => by
    refine foldN_congr (fun c _ s => enum_ext hf (by omega) (fun i hi => ?_))
    by_cases q : i = j
    · subst q; rw [ud_eq, ud_eq]
    · rw [ud_ne q, ud_ne q]; exact e i (by omega)
theorem enum_id {S : Type} {B n : Nat} {f : (Nat → Nat) → S → S} {s : S} : ∀ {m j : Nat} {ρ : Nat → Nat}, j + m = n → (∀ ρ', (∀ i, i < j → ρ' i = ρ i) → (∀ i, j ≤ i → i < n → ρ' i < B) → f ρ' s = s) → enum B f m j ρ s = s
  | 0, j, ρ, h, e => e ρ (fun _ _ => rfl) (fun i h1 h2 => by omega)
  | m + 1, j, ρ, h, e => by
    refine foldN_id (fun c hc => enum_id (n := n) (j := j + 1) (by omega) (fun ρ' h1 h2 => e ρ' (fun i hi => ?_) (fun i g1 g2 => ?_)))
    · rw [h1 i (by omega), ud_ne (by omega)]
    · by_cases q : i = j
      · subst q; rw [h1 i (by omega), ud_eq]; exact hc
      · exact h2 i (by omega) g2
theorem enum_pres {S : Type} {B : Nat} {f : (Nat → Nat) → S → S} {p : S → Prop} (hp : ∀ ρ s, p s → p (f ρ s)) : ∀ {m j : Nat} {ρ : Nat → Nat} {s : S}, p s → p (enum B f m j ρ s)
  | 0, _, ρ, s, h => hp ρ s h
  | m + 1, j, ρ, s, h => foldN_pres h (fun c _ s hs => enum_pres hp hs)
def digR (B n N : Nat) : Nat → Nat := fun i => dig B n N i
theorem enum_num {S : Type} {B n : Nat} {f : (Nat → Nat) → S → S} (hB : 0 < B) (hf : extN n f) : ∀ (m : Nat), m ≤ n → ∀ (q : Nat) (ρ : Nat → Nat) (s : S), (∀ j, j < n - m → ρ j = q / B ^ (n - m - 1 - j) % B) →
    foldN (fun N s => f (digR B n (q * B ^ m + N)) s) (B ^ m) s = enum B f m (n - m) ρ s
  | 0, _, q, ρ, s, h => by
    show f (digR B n (q * 1 + 0)) s = f ρ s
    refine hf _ _ _ (fun i hi => ?_)
    rw [h i (by omega)]
    unfold digR dig
    rw [Nat.mul_one, Nat.add_zero]; rfl
  | m + 1, hm, q, ρ, s, h => by
    rw [Nat.pow_succ, Nat.mul_comm (B ^ m) B, foldN_mul]
    show _ = foldN (fun c s => enum B f m (n - (m + 1) + 1) (ud ρ (n - (m + 1)) c) s) B s
    refine foldN_congr (fun c hc s => ?_)
    have e1 : ∀ N, q * (B * B ^ m) + (c * B ^ m + N) = (q * B + c) * B ^ m + N := by
      intro N
      rw [Nat.add_mul, Nat.mul_assoc, Nat.add_assoc]
    have e2 : n - (m + 1) + 1 = n - m := by omega
    rw [e2]
    rw [← enum_num hB hf m (by omega) (q * B + c) (ud ρ (n - (m + 1)) c) s ?_]
    · refine foldN_congr (fun N _ s => ?_)
      rw [e1]
    · intro j hj
      by_cases e : j = n - (m + 1)
      · rw [e, ud_eq, show n - m - 1 - (n - (m + 1)) = 0 by omega, Nat.pow_zero, Nat.div_one, Nat.mul_comm, Nat.mul_add_mod, Nat.mod_eq_of_lt hc]
      · rw [ud_ne e, h j (by omega), show n - m - 1 - j = (n - (m + 1) - 1 - j) + 1 by omega, Nat.pow_succ, Nat.mul_comm (B ^ _) B, ← Nat.div_div_eq_div_mul, Nat.mul_comm q B, Nat.mul_add_div hB, Nat.div_eq_of_lt hc]; rfl
theorem enum_all {S : Type} {B n : Nat} {f : (Nat → Nat) → S → S} (hB : 0 < B) (hf : extN n f) (ρ : Nat → Nat) (s : S) : foldN (fun N s => f (digR B n N) s) (B ^ n) s = enum B f n 0 ρ s := by
  have h := enum_num hB hf n (Nat.le_refl n) 0 ρ s (fun j hj => by omega)
  rw [Nat.sub_self] at h
  rw [← h]
  refine foldN_congr (fun N _ s => ?_)
  rw [Nat.zero_mul, Nat.zero_add]
-- counts, prices, what can be
def allN (f : Nat → Bool) : Nat → Bool
  | 0 => true
  | k + 1 => allN f k && f k
theorem allN_iff {f : Nat → Bool} : ∀ {n : Nat}, allN f n = true ↔ ∀ k, k < n → f k = true
  | 0 => ⟨fun _ _ h => absurd h (Nat.not_lt_zero _), fun _ => rfl⟩
  | n + 1 => by
    simp only [allN, Bool.and_eq_true, allN_iff (n := n)]
    constructor
    · rintro ⟨h1, h2⟩ k hk
      by_cases e : k = n
      · subst e; exact h2
      · exact h1 k (by omega)
    · exact fun h => ⟨fun k hk => h k (by omega), h n (by omega)⟩
theorem allN_congr {p q : Nat → Bool} : ∀ {n : Nat}, (∀ j, j < n → p j = q j) → allN p n = allN q n
  | 0, _ => rfl
  | n + 1, h => by simp only [allN]; rw [allN_congr (fun j hj => h j (by omega)), h n (by omega)]
def hCn (nb : Nat) (ρ : Nat → Nat) (k : Nat) : Nat := cntN (fun i => decide (ρ i < nb)) k
def hPr (nb : Nat) (pN : Nat → Nat) (ρ : Nat → Nat) : Nat → Nat
  | 0 => 0
  | k + 1 => hPr nb pN ρ k + (if ρ k < nb then pN (ρ k) else 0)
def hIn (ρ : Nat → Nat) (b k : Nat) : Nat := cntN (fun i => decide (ρ i = b)) k
theorem hCn_s {nb : Nat} {ρ : Nat → Nat} {k : Nat} : hCn nb ρ (k + 1) = hCn nb ρ k + (if ρ k < nb then 1 else 0) := by
  unfold hCn; simp only [cntN, decide_eq_true_eq]
theorem hIn_s {ρ : Nat → Nat} {b k : Nat} : hIn ρ b (k + 1) = hIn ρ b k + (if ρ k = b then 1 else 0) := by
  unfold hIn; simp only [cntN, decide_eq_true_eq]
theorem hCn_congr {nb : Nat} {ρ ρ' : Nat → Nat} {k : Nat} (h : ∀ i, i < k → ρ i = ρ' i) : hCn nb ρ k = hCn nb ρ' k := cntN_congr (fun j hj => by rw [h j hj])
theorem hIn_congr {b : Nat} {ρ ρ' : Nat → Nat} {k : Nat} (h : ∀ i, i < k → ρ i = ρ' i) : hIn ρ b k = hIn ρ' b k := cntN_congr (fun j hj => by rw [h j hj])
theorem hPr_congr {nb : Nat} {pN : Nat → Nat} {ρ ρ' : Nat → Nat} : ∀ {k : Nat}, (∀ i, i < k → ρ i = ρ' i) → hPr nb pN ρ k = hPr nb pN ρ' k
  | 0, _ => rfl
  | k + 1, h => by simp only [hPr]; rw [hPr_congr (fun i hi => h i (by omega)), h k (by omega)]
theorem hCn_mono {nb : Nat} {ρ : Nat → Nat} {j : Nat} : ∀ {m : Nat}, hCn nb ρ (j + m) ≤ hCn nb ρ j + m
  | 0 => Nat.le_refl _
  | m + 1 => by
    have := hCn_mono (nb := nb) (ρ := ρ) (j := j) (m := m)
    show hCn nb ρ ((j + m) + 1) ≤ _
    rw [hCn_s]; split <;> omega
theorem hIn_mono {b : Nat} {ρ : Nat → Nat} {j : Nat} : ∀ {m : Nat}, hIn ρ b j ≤ hIn ρ b (j + m)
  | 0 => Nat.le_refl _
  | m + 1 => by
    have := hIn_mono (b := b) (ρ := ρ) (j := j) (m := m)
    show _ ≤ hIn ρ b ((j + m) + 1)
    rw [hIn_s]; omega
theorem hPr_mono {nb : Nat} {pN ρ : Nat → Nat} {j : Nat} : ∀ {m : Nat}, hPr nb pN ρ j ≤ hPr nb pN ρ (j + m)
  | 0 => Nat.le_refl _
  | m + 1 => by
    have := hPr_mono (nb := nb) (pN := pN) (ρ := ρ) (j := j) (m := m)
    show _ ≤ hPr nb pN ρ (j + m) + _
    omega
theorem hPr_le {nb : Nat} {pN ρ : Nat → Nat} (hp : ∀ b, b < nb → pN b ≤ 9) : ∀ {m : Nat}, hPr nb pN ρ m ≤ 9 * m
  | 0 => Nat.le_refl _
  | m + 1 => by
    have := hPr_le (ρ := ρ) hp (m := m)
    simp only [hPr]
    split
    · have := hp (ρ m) (by assumption); omega
    · omega
theorem hCn_le {nb : Nat} {ρ : Nat → Nat} {m : Nat} : hCn nb ρ m ≤ m := cntN_le _ _
/-- the best so far -/
abbrev hSt : Type := Option (Nat × Nat × (Nat → Nat))
def hMore (c p : Nat) : hSt → Bool
  | none => true
  | some (c', p', _) => decide (c' < c) || (decide (c = c') && decide (p < p'))
def hTr (n : Nat) (ρ : Nat → Nat) : Nat → Nat := fun i => if i < n then ρ i else 0
def hHeld (nb n : Nat) (H : Nat → Nat) (ρ : Nat → Nat) : Bool := allN (fun b => decide (hIn ρ b n ≤ H b)) nb
def hCan (nb n : Nat) (H : Nat → Nat) (ok : Nat → Nat → Bool) (ρ : Nat → Nat) : Bool := allN (fun i => !(decide (ρ i < nb)) || ok i (ρ i)) n && hHeld nb n H ρ
def hF (nb n : Nat) (pN H : Nat → Nat) (ok : Nat → Nat → Bool) (ρ : Nat → Nat) (s : hSt) : hSt := if hMore (hCn nb ρ n) (hPr nb pN ρ n) s = true ∧ hCan nb n H ok ρ = true then some (hCn nb ρ n, hPr nb pN ρ n, hTr n ρ) else s
theorem hHeld_congr {nb n : Nat} {H ρ ρ' : Nat → Nat} (h : ∀ i, i < n → ρ i = ρ' i) : hHeld nb n H ρ = hHeld nb n H ρ' := by
  unfold hHeld; exact allN_congr (fun b _ => by rw [hIn_congr h])
theorem hF_ext {nb n : Nat} {pN H : Nat → Nat} {ok : Nat → Nat → Bool} : extN n (hF nb n pN H ok) := by
  intro ρ ρ' s h
  have e1 : hTr n ρ = hTr n ρ' := by
    funext i; unfold hTr; split
    · exact h i (by assumption)
    · rfl
  have e2 : hCan nb n H ok ρ = hCan nb n H ok ρ' := by
    unfold hCan
    rw [hHeld_congr h, allN_congr (fun i hi => by rw [h i hi])]
  unfold hF
  rw [hCn_congr h, hPr_congr h, e1, e2]
def hOK (n : Nat) : hSt → Prop
  | none => True
  | some (c, p, _) => c ≤ n ∧ p ≤ 9 * n
theorem hF_ok {nb n : Nat} {pN H : Nat → Nat} {ok : Nat → Nat → Bool} (hp : ∀ b, b < nb → pN b ≤ 9) {ρ : Nat → Nat} {s : hSt} (h : hOK n s) : hOK n (hF nb n pN H ok ρ s) := by
  unfold hF
  split
  · exact ⟨hCn_le, hPr_le hp⟩
  · exact h
def hCut (a p : Nat) : hSt → Prop
  | none => False
  | some (c', p', _) => a < c' ∨ (a = c' ∧ p' ≤ p)
theorem hCut_id {nb n : Nat} {pN H : Nat → Nat} {ok : Nat → Nat → Bool} {m j : Nat} {ρ : Nat → Nat} {s : hSt} (hj : j + m = n) (h : hCut (hCn nb ρ j + m) (hPr nb pN ρ j) s) : enum (nb + 1) (hF nb n pN H ok) m j ρ s = s := by
  refine enum_id hj (fun ρ' h1 _ => ?_)
  unfold hF
  rw [if_neg]
  rintro ⟨q, -⟩
  have e1 := hCn_mono (nb := nb) (ρ := ρ') (j := j) (m := m)
  have e2 := hPr_mono (nb := nb) (pN := pN) (ρ := ρ') (j := j) (m := m)
  rw [hj, hCn_congr h1] at e1
  rw [hj, hPr_congr h1] at e2
  match s, h, q with
  | some (c', p', _), h, q =>
    simp only [hMore, Bool.or_eq_true, Bool.and_eq_true, decide_eq_true_eq] at q
    rcases h with h | ⟨h, h'⟩ <;> omega
theorem hBad_id {nb n : Nat} {pN H : Nat → Nat} {ok : Nat → Nat → Bool} {m j c : Nat} {ρ : Nat → Nat} {s : hSt} (hj : j + (m + 1) = n) (hc : c < nb) (h : ok j c = false ∨ H c ≤ hIn ρ c j) : enum (nb + 1) (hF nb n pN H ok) m (j + 1) (ud ρ j c) s = s := by
  refine enum_id (n := n) (by omega) (fun ρ' h1 _ => ?_)
  unfold hF
  rw [if_neg]
  rintro ⟨-, q⟩
  have ej : ρ' j = c := by rw [h1 j (by omega), ud_eq]
  unfold hCan hHeld at q
  rw [Bool.and_eq_true, allN_iff, allN_iff] at q
  rcases h with h | h
  · have := q.1 j (by omega)
    rw [ej, h] at this
    simp [hc] at this
  · have := q.2 c hc
    rw [decide_eq_true_eq] at this
    have e1 := hIn_mono (b := c) (ρ := ρ') (j := j + 1) (m := m)
    rw [show j + 1 + m = n by omega, hIn_s, if_pos ej, hIn_congr (ρ' := ρ) (fun i hi => by rw [h1 i (by omega), ud_ne (by omega)])] at e1
    omega

