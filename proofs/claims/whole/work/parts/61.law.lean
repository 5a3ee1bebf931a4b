/-! THE LAW: its loop. The script is cell 100. -/
abbrev kL : mM := (x, code, 4, ret)
def lQ : Option Value → mW → Prop := fun v _ => v = some (.int 1)
def xL (b L : Nat) (xs : Nat → Int32) : mX := fun s H0 A as => va_X b L xs s H0 ∧ b < H0.size ∧ ¬ A b ∧ as 100 = b
theorem x_sld {b L : Nat} {xs : Nat → Int32} {d : Nat} {M : mM} {Q : Option Value → mW → Prop} {pc : Nat} {L' st : List Value} {w : mW} {i : Int32} (hd : decode M.2.1 pc = .ok (.iaload, 1)) (hi : vp_in i L) (k : mJ (xL b L xs) d M Q (pc + 1) L' (.int (xs i.toNatClampNeg) :: st) w) : mJ (xL b L xs) d M Q pc L' (.int i :: .ref 100 :: st) w := by
  intro p l e R s m args below meth c D cy as A H0 cells slots Z hC hX hE H locs ls hP hD hS hl
  obtain ⟨h1, h2, h3, h4⟩ := id hX
  show W _ _ _ _ _ _ _ _ _ _ _ _ _ _ _ (F0 m pc ls (.int i :: .ref (as 100) :: st.map (mTr as)))
  rw [h4]
  exact va_sld hC.1 hC.2.1 h1 h2 h3 hS hi hd (k p l e R s m args below meth c D cy as A H0 cells slots Z hC hX hE H locs ls hP hD hS hl)
theorem x_slen {b L : Nat} {xs : Nat → Int32} {d : Nat} {M : mM} {Q : Option Value → mW → Prop} {pc : Nat} {L' st : List Value} {w : mW} (hd : decode M.2.1 pc = .ok (.arraylength, 1)) (k : mJ (xL b L xs) d M Q (pc + 1) L' (.int (nI L) :: st) w) : mJ (xL b L xs) d M Q pc L' (.ref 100 :: st) w := by
  intro p l e R s m args below meth c D cy as A H0 cells slots Z hC hX hE H locs ls hP hD hS hl
  obtain ⟨h1, h2, h3, h4⟩ := id hX
  show W _ _ _ _ _ _ _ _ _ _ _ _ _ _ _ (F0 m pc ls (.ref (as 100) :: st.map (mTr as)))
  rw [h4]
  exact va_slen hC.1 hC.2.1 h1 h2 h3 hS hd (k p l e R s m args below meth c D cy as A H0 cells slots Z hC hX hE H locs ls hP hD hS hl)
theorem law_in {k j L : Nat} {v : Int32} (hk : k + 6 ≤ L) (hL : L ≤ 3072) (hj : j < 6 ∧ v.toInt = (j : Int)) : vp_in (nI k + v) L := by
  have h1 : (nI k).toInt = (k : Int) := nI_toInt (by omega)
  have h2 : (nI k + v).toInt = (nI k).toInt + v.toInt := i_add (by omega) (by omega)
  rw [vp_in_iff]
  omega
theorem mTy_int {M : mM} {v : Option Value} (hM : M.2.2.2 = some .int) (h : mTy M v) : ∃ y, v = some (.int y) := by
  unfold mTy at h
  split at h
  · rw [hM] at h; cases h
  · exact ⟨_, rfl⟩
  · rw [hM] at h; cases h
  · exact h.elim
theorem mK_obj {w w1 : mW} {a ci : Nat} {fs : List Value} (hk : mK w w1) (hw : w a = .inr (ci, fs)) : ∃ fs', w1 a = .inr (ci, fs') := by
  have h := hk a
  rw [hw] at h
  cases hq : w1 a with
  | inl p => rw [hq] at h; cases h
  | inr o =>
    rw [hq] at h
    obtain ⟨o1, o2⟩ := o
    have h : o1 = ci := by simpa [mKd] using h
    subst h
    exact ⟨o2, rfl⟩
theorem lg_cmp_self (y : Int64) : lg_cmp y y = 0 := by simp [lg_cmp]
theorem sw_out29 {x : Int32} (h0 : ¬ x = 0) (h1 : ¬ x = 1) (h2 : ¬ x = 2) (h3 : ¬ x = 3) (h4 : ¬ x = 4) (h5 : ¬ x = 5) (h6 : ¬ x = 6) (h7 : ¬ x = 7) (h8 : ¬ x = 8) (h9 : ¬ x = 9) (h10 : ¬ x = 10) (h11 : ¬ x = 11) (h12 : ¬ x = 12) (h13 : ¬ x = 13) (h14 : ¬ x = 14) (h15 : ¬ x = 15) (h16 : ¬ x = 16) (h17 : ¬ x = 17) (h18 : ¬ x = 18) (h19 : ¬ x = 19) (h20 : ¬ x = 20) (h21 : ¬ x = 21) (h22 : ¬ x = 22) (h23 : ¬ x = 23) (h24 : ¬ x = 24) (h25 : ¬ x = 25) (h26 : ¬ x = 26) (h27 : ¬ x = 27) (h28 : ¬ x = 28) : x.toInt < 0 ∨ 28 < x.toInt := by
  have g0 : ¬ x.toInt = 0 := lv_neT h0 rfl
  have g1 : ¬ x.toInt = 1 := lv_neT h1 rfl
  have g2 : ¬ x.toInt = 2 := lv_neT h2 rfl
  have g3 : ¬ x.toInt = 3 := lv_neT h3 rfl
  have g4 : ¬ x.toInt = 4 := lv_neT h4 rfl
  have g5 : ¬ x.toInt = 5 := lv_neT h5 rfl
  have g6 : ¬ x.toInt = 6 := lv_neT h6 rfl
  have g7 : ¬ x.toInt = 7 := lv_neT h7 rfl
  have g8 : ¬ x.toInt = 8 := lv_neT h8 rfl
  have g9 : ¬ x.toInt = 9 := lv_neT h9 rfl
  have g10 : ¬ x.toInt = 10 := lv_neT h10 rfl
  have g11 : ¬ x.toInt = 11 := lv_neT h11 rfl
  have g12 : ¬ x.toInt = 12 := lv_neT h12 rfl
  have g13 : ¬ x.toInt = 13 := lv_neT h13 rfl
  have g14 : ¬ x.toInt = 14 := lv_neT h14 rfl
  have g15 : ¬ x.toInt = 15 := lv_neT h15 rfl
  have g16 : ¬ x.toInt = 16 := lv_neT h16 rfl
  have g17 : ¬ x.toInt = 17 := lv_neT h17 rfl
  have g18 : ¬ x.toInt = 18 := lv_neT h18 rfl
  have g19 : ¬ x.toInt = 19 := lv_neT h19 rfl
  have g20 : ¬ x.toInt = 20 := lv_neT h20 rfl
  have g21 : ¬ x.toInt = 21 := lv_neT h21 rfl
  have g22 : ¬ x.toInt = 22 := lv_neT h22 rfl
  have g23 : ¬ x.toInt = 23 := lv_neT h23 rfl
  have g24 : ¬ x.toInt = 24 := lv_neT h24 rfl
  have g25 : ¬ x.toInt = 25 := lv_neT h25 rfl
  have g26 : ¬ x.toInt = 26 := lv_neT h26 rfl
  have g27 : ¬ x.toInt = 27 := lv_neT h27 rfl
  have g28 : ¬ x.toInt = 28 := lv_neT h28 rfl
  omega

theorem law_down {b L : Nat} {xs : Nat → Int32} {w : mW} {k : Nat} (hL : L ≤ 3072) (hI : Inv w) (hk : k + 6 ≤ L) (kk : ∀ w2, Inv w2 → mJ (xL b L xs) 21 kL lQ 1113 [.ref 100, .ref 0, .ref 44, .int (nI k)] [] w2) : mJ (xL b L xs) 21 kL lQ 164 [.ref 100, .ref 0, .ref 44, .int (nI k)] [] w := by
  obtain ⟨_, hw0, -⟩ := hI.1.obj (a := 0) rfl
  obtain ⟨_, hw44, -⟩ := hI.1.obj (a := 44) rfl
  refine x_aload_n (pc := 164) (i := 1) dL_law_164 rfl rfl ?_
  refine x_aload_n (pc := 165) (i := 0) dL_law_165 rfl rfl ?_
  refine x_iload_n (pc := 166) (i := 3) dL_law_166 rfl rfl ?_
  refine x_iconst (pc := 167) (v := 1) dL_law_167 (by decide) ?_
  refine x_iadd (pc := 168) dL_law_168 ?_
  refine x_sld (pc := 169) dL_law_169 (law_in (j := 1) hk hL ⟨by decide, rfl⟩) ?_
  refine x_aload_n (pc := 170) (i := 0) dL_law_170 rfl rfl ?_
  refine x_iload_n (pc := 171) (i := 3) dL_law_171 rfl rfl ?_
  refine x_iconst (pc := 172) (v := 2) dL_law_172 (by decide) ?_
  refine x_iadd (pc := 173) dL_law_173 ?_
  refine x_sld (pc := 174) dL_law_174 (law_in (j := 2) hk hL ⟨by decide, rfl⟩) ?_
  refine x_aload_n (pc := 175) (i := 0) dL_law_175 rfl rfl ?_
  refine x_iload_n (pc := 176) (i := 3) dL_law_176 rfl rfl ?_
  refine x_iconst (pc := 177) (v := 3) dL_law_177 (by decide) ?_
  refine x_iadd (pc := 178) dL_law_178 ?_
  refine x_sld (pc := 179) dL_law_179 (law_in (j := 3) hk hL ⟨by decide, rfl⟩) ?_
  refine x_aload_n (pc := 180) (i := 0) dL_law_180 rfl rfl ?_
  refine x_iload_n (pc := 181) (i := 3) dL_law_181 rfl rfl ?_
  refine x_iconst (pc := 182) (v := 4) dL_law_182 (by decide) ?_
  refine x_iadd (pc := 183) dL_law_183 ?_
  refine x_sld (pc := 184) dL_law_184 (law_in (j := 4) hk hL ⟨by decide, rfl⟩) ?_
  refine x_virtT (M := kL) (pc := 185) (a := 0) (As := [.int (xs (nI k + 1).toNatClampNeg), .int (xs (nI k + 2).toNatClampNeg), .int (xs (nI k + 3).toNatClampNeg), .int (xs (nI k + 4).toNatClampNeg)]) lL_13 dL_law_185 (by decide) hw0 rfl (Nat.le_of_ble_eq_true rfl) rfl ((both_down (w := w) hI _ _ _ _) 0) ?_
  intro r w1 ht hk1 hr
  obtain ⟨y, rfl⟩ := mTy_int (M := kX7_down) rfl ht
  refine x_pushI ?_
  refine x_aload_n (pc := 188) (i := 2) dL_law_188 rfl rfl ?_
  refine x_aload_n (pc := 189) (i := 0) dL_law_189 rfl rfl ?_
  refine x_iload_n (pc := 190) (i := 3) dL_law_190 rfl rfl ?_
  refine x_iconst (pc := 191) (v := 1) dL_law_191 (by decide) ?_
  refine x_iadd (pc := 192) dL_law_192 ?_
  refine x_sld (pc := 193) dL_law_193 (law_in (j := 1) hk hL ⟨by decide, rfl⟩) ?_
  refine x_aload_n (pc := 194) (i := 0) dL_law_194 rfl rfl ?_
  refine x_iload_n (pc := 195) (i := 3) dL_law_195 rfl rfl ?_
  refine x_iconst (pc := 196) (v := 2) dL_law_196 (by decide) ?_
  refine x_iadd (pc := 197) dL_law_197 ?_
  refine x_sld (pc := 198) dL_law_198 (law_in (j := 2) hk hL ⟨by decide, rfl⟩) ?_
  refine x_aload_n (pc := 199) (i := 0) dL_law_199 rfl rfl ?_
  refine x_iload_n (pc := 200) (i := 3) dL_law_200 rfl rfl ?_
  refine x_iconst (pc := 201) (v := 3) dL_law_201 (by decide) ?_
  refine x_iadd (pc := 202) dL_law_202 ?_
  refine x_sld (pc := 203) dL_law_203 (law_in (j := 3) hk hL ⟨by decide, rfl⟩) ?_
  refine x_aload_n (pc := 204) (i := 0) dL_law_204 rfl rfl ?_
  refine x_iload_n (pc := 205) (i := 3) dL_law_205 rfl rfl ?_
  refine x_iconst (pc := 206) (v := 4) dL_law_206 (by decide) ?_
  refine x_iadd (pc := 207) dL_law_207 ?_
  refine x_sld (pc := 208) dL_law_208 (law_in (j := 4) hk hL ⟨by decide, rfl⟩) ?_
  obtain ⟨_, hw1⟩ := mK_obj hk1 hw44
  refine x_virt (M := kL) (pc := 209) (a := 44) (As := [.int (xs (nI k + 1).toNatClampNeg), .int (xs (nI k + 2).toNatClampNeg), .int (xs (nI k + 3).toNatClampNeg), .int (xs (nI k + 4).toNatClampNeg)]) lL_17 dL_law_209 (by decide) hw1 rfl (Nat.le_of_ble_eq_true rfl) rfl hr ?_
  rintro _ w2 ⟨rfl, hI2⟩
  refine x_pushI ?_
  refine x_icmp_eq (pc := 212) (tgt := 1113) dL_law_212 (by decide) (fun _ => ?_) (fun h => absurd rfl h)
  exact kk w2 hI2
theorem law_ofBarrow {b L : Nat} {xs : Nat → Int32} {w : mW} {k : Nat} (hL : L ≤ 3072) (hI : Inv w) (hk : k + 6 ≤ L) (kk : ∀ w2, Inv w2 → mJ (xL b L xs) 21 kL lQ 1113 [.ref 100, .ref 0, .ref 44, .int (nI k)] [] w2) : mJ (xL b L xs) 21 kL lQ 217 [.ref 100, .ref 0, .ref 44, .int (nI k)] [] w := by
  obtain ⟨_, hw0, -⟩ := hI.1.obj (a := 0) rfl
  obtain ⟨_, hw44, -⟩ := hI.1.obj (a := 44) rfl
  refine x_aload_n (pc := 217) (i := 1) dL_law_217 rfl rfl ?_
  refine x_aload_n (pc := 218) (i := 0) dL_law_218 rfl rfl ?_
  refine x_iload_n (pc := 219) (i := 3) dL_law_219 rfl rfl ?_
  refine x_iconst (pc := 220) (v := 1) dL_law_220 (by decide) ?_
  refine x_iadd (pc := 221) dL_law_221 ?_
  refine x_sld (pc := 222) dL_law_222 (law_in (j := 1) hk hL ⟨by decide, rfl⟩) ?_
  refine x_aload_n (pc := 223) (i := 0) dL_law_223 rfl rfl ?_
  refine x_iload_n (pc := 224) (i := 3) dL_law_224 rfl rfl ?_
  refine x_iconst (pc := 225) (v := 2) dL_law_225 (by decide) ?_
  refine x_iadd (pc := 226) dL_law_226 ?_
  refine x_sld (pc := 227) dL_law_227 (law_in (j := 2) hk hL ⟨by decide, rfl⟩) ?_
  refine x_virtT (M := kL) (pc := 228) (a := 0) (As := [.int (xs (nI k + 1).toNatClampNeg), .int (xs (nI k + 2).toNatClampNeg)]) lL_18 dL_law_228 (by decide) hw0 rfl (Nat.le_of_ble_eq_true rfl) rfl ((both_ofBarrow (w := w) hI _ _) 0) ?_
  intro r w1 ht hk1 hr
  obtain ⟨y, rfl⟩ := mTy_int (M := kX7_ofBarrow) rfl ht
  refine x_pushI ?_
  refine x_aload_n (pc := 231) (i := 2) dL_law_231 rfl rfl ?_
  refine x_aload_n (pc := 232) (i := 0) dL_law_232 rfl rfl ?_
  refine x_iload_n (pc := 233) (i := 3) dL_law_233 rfl rfl ?_
  refine x_iconst (pc := 234) (v := 1) dL_law_234 (by decide) ?_
  refine x_iadd (pc := 235) dL_law_235 ?_
  refine x_sld (pc := 236) dL_law_236 (law_in (j := 1) hk hL ⟨by decide, rfl⟩) ?_
  refine x_aload_n (pc := 237) (i := 0) dL_law_237 rfl rfl ?_
  refine x_iload_n (pc := 238) (i := 3) dL_law_238 rfl rfl ?_
  refine x_iconst (pc := 239) (v := 2) dL_law_239 (by decide) ?_
  refine x_iadd (pc := 240) dL_law_240 ?_
  refine x_sld (pc := 241) dL_law_241 (law_in (j := 2) hk hL ⟨by decide, rfl⟩) ?_
  obtain ⟨_, hw1⟩ := mK_obj hk1 hw44
  refine x_virt (M := kL) (pc := 242) (a := 44) (As := [.int (xs (nI k + 1).toNatClampNeg), .int (xs (nI k + 2).toNatClampNeg)]) lL_22 dL_law_242 (by decide) hw1 rfl (Nat.le_of_ble_eq_true rfl) rfl hr ?_
  rintro _ w2 ⟨rfl, hI2⟩
  refine x_pushI ?_
  refine x_icmp_eq (pc := 245) (tgt := 1113) dL_law_245 (by decide) (fun _ => ?_) (fun h => absurd rfl h)
  exact kk w2 hI2
theorem law_ofWalker {b L : Nat} {xs : Nat → Int32} {w : mW} {k : Nat} (hL : L ≤ 3072) (hI : Inv w) (hk : k + 6 ≤ L) (kk : ∀ w2, Inv w2 → mJ (xL b L xs) 21 kL lQ 1113 [.ref 100, .ref 0, .ref 44, .int (nI k)] [] w2) : mJ (xL b L xs) 21 kL lQ 250 [.ref 100, .ref 0, .ref 44, .int (nI k)] [] w := by
  obtain ⟨_, hw0, -⟩ := hI.1.obj (a := 0) rfl
  obtain ⟨_, hw44, -⟩ := hI.1.obj (a := 44) rfl
  refine x_aload_n (pc := 250) (i := 1) dL_law_250 rfl rfl ?_
  refine x_aload_n (pc := 251) (i := 0) dL_law_251 rfl rfl ?_
  refine x_iload_n (pc := 252) (i := 3) dL_law_252 rfl rfl ?_
  refine x_iconst (pc := 253) (v := 1) dL_law_253 (by decide) ?_
  refine x_iadd (pc := 254) dL_law_254 ?_
  refine x_sld (pc := 255) dL_law_255 (law_in (j := 1) hk hL ⟨by decide, rfl⟩) ?_
  refine x_aload_n (pc := 256) (i := 0) dL_law_256 rfl rfl ?_
  refine x_iload_n (pc := 257) (i := 3) dL_law_257 rfl rfl ?_
  refine x_iconst (pc := 258) (v := 2) dL_law_258 (by decide) ?_
  refine x_iadd (pc := 259) dL_law_259 ?_
  refine x_sld (pc := 260) dL_law_260 (law_in (j := 2) hk hL ⟨by decide, rfl⟩) ?_
  refine x_virtT (M := kL) (pc := 261) (a := 0) (As := [.int (xs (nI k + 1).toNatClampNeg), .int (xs (nI k + 2).toNatClampNeg)]) lL_23 dL_law_261 (by decide) hw0 rfl (Nat.le_of_ble_eq_true rfl) rfl ((both_ofWalker (w := w) hI _ _) 0) ?_
  intro r w1 ht hk1 hr
  obtain ⟨y, rfl⟩ := mTy_int (M := kX7_ofWalker) rfl ht
  refine x_pushI ?_
  refine x_aload_n (pc := 264) (i := 2) dL_law_264 rfl rfl ?_
  refine x_aload_n (pc := 265) (i := 0) dL_law_265 rfl rfl ?_
  refine x_iload_n (pc := 266) (i := 3) dL_law_266 rfl rfl ?_
  refine x_iconst (pc := 267) (v := 1) dL_law_267 (by decide) ?_
  refine x_iadd (pc := 268) dL_law_268 ?_
  refine x_sld (pc := 269) dL_law_269 (law_in (j := 1) hk hL ⟨by decide, rfl⟩) ?_
  refine x_aload_n (pc := 270) (i := 0) dL_law_270 rfl rfl ?_
  refine x_iload_n (pc := 271) (i := 3) dL_law_271 rfl rfl ?_
  refine x_iconst (pc := 272) (v := 2) dL_law_272 (by decide) ?_
  refine x_iadd (pc := 273) dL_law_273 ?_
  refine x_sld (pc := 274) dL_law_274 (law_in (j := 2) hk hL ⟨by decide, rfl⟩) ?_
  obtain ⟨_, hw1⟩ := mK_obj hk1 hw44
  refine x_virt (M := kL) (pc := 275) (a := 44) (As := [.int (xs (nI k + 1).toNatClampNeg), .int (xs (nI k + 2).toNatClampNeg)]) lL_26 dL_law_275 (by decide) hw1 rfl (Nat.le_of_ble_eq_true rfl) rfl hr ?_
  rintro _ w2 ⟨rfl, hI2⟩
  refine x_pushI ?_
  refine x_icmp_eq (pc := 278) (tgt := 1113) dL_law_278 (by decide) (fun _ => ?_) (fun h => absurd rfl h)
  exact kk w2 hI2
theorem law_charge {b L : Nat} {xs : Nat → Int32} {w : mW} {k : Nat} (hL : L ≤ 3072) (hI : Inv w) (hk : k + 6 ≤ L) (kk : ∀ w2, Inv w2 → mJ (xL b L xs) 21 kL lQ 1113 [.ref 100, .ref 0, .ref 44, .int (nI k)] [] w2) : mJ (xL b L xs) 21 kL lQ 283 [.ref 100, .ref 0, .ref 44, .int (nI k)] [] w := by
  obtain ⟨_, hw0, -⟩ := hI.1.obj (a := 0) rfl
  obtain ⟨_, hw44, -⟩ := hI.1.obj (a := 44) rfl
  refine x_aload_n (pc := 283) (i := 1) dL_law_283 rfl rfl ?_
  refine x_aload_n (pc := 284) (i := 0) dL_law_284 rfl rfl ?_
  refine x_iload_n (pc := 285) (i := 3) dL_law_285 rfl rfl ?_
  refine x_iconst (pc := 286) (v := 1) dL_law_286 (by decide) ?_
  refine x_iadd (pc := 287) dL_law_287 ?_
  refine x_sld (pc := 288) dL_law_288 (law_in (j := 1) hk hL ⟨by decide, rfl⟩) ?_
  refine x_aload_n (pc := 289) (i := 0) dL_law_289 rfl rfl ?_
  refine x_iload_n (pc := 290) (i := 3) dL_law_290 rfl rfl ?_
  refine x_iconst (pc := 291) (v := 2) dL_law_291 (by decide) ?_
  refine x_iadd (pc := 292) dL_law_292 ?_
  refine x_sld (pc := 293) dL_law_293 (law_in (j := 2) hk hL ⟨by decide, rfl⟩) ?_
  refine x_virtT (M := kL) (pc := 294) (a := 0) (As := [.int (xs (nI k + 1).toNatClampNeg), .int (xs (nI k + 2).toNatClampNeg)]) lL_27 dL_law_294 (by decide) hw0 rfl (Nat.le_of_ble_eq_true rfl) rfl ((both_charge (w := w) hI _ _) 0) ?_
  intro r w1 ht hk1 hr
  obtain ⟨y, rfl⟩ := mTy_int (M := kX7_charge) rfl ht
  refine x_pushI ?_
  refine x_aload_n (pc := 297) (i := 2) dL_law_297 rfl rfl ?_
  refine x_aload_n (pc := 298) (i := 0) dL_law_298 rfl rfl ?_
  refine x_iload_n (pc := 299) (i := 3) dL_law_299 rfl rfl ?_
  refine x_iconst (pc := 300) (v := 1) dL_law_300 (by decide) ?_
  refine x_iadd (pc := 301) dL_law_301 ?_
  refine x_sld (pc := 302) dL_law_302 (law_in (j := 1) hk hL ⟨by decide, rfl⟩) ?_
  refine x_aload_n (pc := 303) (i := 0) dL_law_303 rfl rfl ?_
  refine x_iload_n (pc := 304) (i := 3) dL_law_304 rfl rfl ?_
  refine x_iconst (pc := 305) (v := 2) dL_law_305 (by decide) ?_
  refine x_iadd (pc := 306) dL_law_306 ?_
  refine x_sld (pc := 307) dL_law_307 (law_in (j := 2) hk hL ⟨by decide, rfl⟩) ?_
  obtain ⟨_, hw1⟩ := mK_obj hk1 hw44
  refine x_virt (M := kL) (pc := 308) (a := 44) (As := [.int (xs (nI k + 1).toNatClampNeg), .int (xs (nI k + 2).toNatClampNeg)]) lL_30 dL_law_308 (by decide) hw1 rfl (Nat.le_of_ble_eq_true rfl) rfl hr ?_
  rintro _ w2 ⟨rfl, hI2⟩
  refine x_pushI ?_
  refine x_icmp_eq (pc := 311) (tgt := 1113) dL_law_311 (by decide) (fun _ => ?_) (fun h => absurd rfl h)
  exact kk w2 hI2
theorem law_earn {b L : Nat} {xs : Nat → Int32} {w : mW} {k : Nat} (hL : L ≤ 3072) (hI : Inv w) (hk : k + 6 ≤ L) (kk : ∀ w2, Inv w2 → mJ (xL b L xs) 21 kL lQ 1113 [.ref 100, .ref 0, .ref 44, .int (nI k)] [] w2) : mJ (xL b L xs) 21 kL lQ 316 [.ref 100, .ref 0, .ref 44, .int (nI k)] [] w := by
  obtain ⟨_, hw0, -⟩ := hI.1.obj (a := 0) rfl
  obtain ⟨_, hw44, -⟩ := hI.1.obj (a := 44) rfl
  refine x_aload_n (pc := 316) (i := 1) dL_law_316 rfl rfl ?_
  refine x_aload_n (pc := 317) (i := 0) dL_law_317 rfl rfl ?_
  refine x_iload_n (pc := 318) (i := 3) dL_law_318 rfl rfl ?_
  refine x_iconst (pc := 319) (v := 1) dL_law_319 (by decide) ?_
  refine x_iadd (pc := 320) dL_law_320 ?_
  refine x_sld (pc := 321) dL_law_321 (law_in (j := 1) hk hL ⟨by decide, rfl⟩) ?_
  refine x_aload_n (pc := 322) (i := 0) dL_law_322 rfl rfl ?_
  refine x_iload_n (pc := 323) (i := 3) dL_law_323 rfl rfl ?_
  refine x_iconst (pc := 324) (v := 2) dL_law_324 (by decide) ?_
  refine x_iadd (pc := 325) dL_law_325 ?_
  refine x_sld (pc := 326) dL_law_326 (law_in (j := 2) hk hL ⟨by decide, rfl⟩) ?_
  refine x_virtT (M := kL) (pc := 327) (a := 0) (As := [.int (xs (nI k + 1).toNatClampNeg), .int (xs (nI k + 2).toNatClampNeg)]) lL_31 dL_law_327 (by decide) hw0 rfl (Nat.le_of_ble_eq_true rfl) rfl ((both_earn (w := w) hI _ _) 0) ?_
  intro r w1 ht hk1 hr
  obtain ⟨y, rfl⟩ := mTy_int (M := kX7_earn) rfl ht
  refine x_pushI ?_
  refine x_aload_n (pc := 330) (i := 2) dL_law_330 rfl rfl ?_
  refine x_aload_n (pc := 331) (i := 0) dL_law_331 rfl rfl ?_
  refine x_iload_n (pc := 332) (i := 3) dL_law_332 rfl rfl ?_
  refine x_iconst (pc := 333) (v := 1) dL_law_333 (by decide) ?_
  refine x_iadd (pc := 334) dL_law_334 ?_
  refine x_sld (pc := 335) dL_law_335 (law_in (j := 1) hk hL ⟨by decide, rfl⟩) ?_
  refine x_aload_n (pc := 336) (i := 0) dL_law_336 rfl rfl ?_
  refine x_iload_n (pc := 337) (i := 3) dL_law_337 rfl rfl ?_
  refine x_iconst (pc := 338) (v := 2) dL_law_338 (by decide) ?_
  refine x_iadd (pc := 339) dL_law_339 ?_
  refine x_sld (pc := 340) dL_law_340 (law_in (j := 2) hk hL ⟨by decide, rfl⟩) ?_
  obtain ⟨_, hw1⟩ := mK_obj hk1 hw44
  refine x_virt (M := kL) (pc := 341) (a := 44) (As := [.int (xs (nI k + 1).toNatClampNeg), .int (xs (nI k + 2).toNatClampNeg)]) lL_34 dL_law_341 (by decide) hw1 rfl (Nat.le_of_ble_eq_true rfl) rfl hr ?_
  rintro _ w2 ⟨rfl, hI2⟩
  refine x_pushI ?_
  refine x_icmp_eq (pc := 344) (tgt := 1113) dL_law_344 (by decide) (fun _ => ?_) (fun h => absurd rfl h)
  exact kk w2 hI2
theorem law_lodge {b L : Nat} {xs : Nat → Int32} {w : mW} {k : Nat} (hL : L ≤ 3072) (hI : Inv w) (hk : k + 6 ≤ L) (kk : ∀ w2, Inv w2 → mJ (xL b L xs) 21 kL lQ 1113 [.ref 100, .ref 0, .ref 44, .int (nI k)] [] w2) : mJ (xL b L xs) 21 kL lQ 349 [.ref 100, .ref 0, .ref 44, .int (nI k)] [] w := by
  obtain ⟨_, hw0, -⟩ := hI.1.obj (a := 0) rfl
  obtain ⟨_, hw44, -⟩ := hI.1.obj (a := 44) rfl
  refine x_aload_n (pc := 349) (i := 1) dL_law_349 rfl rfl ?_
  refine x_aload_n (pc := 350) (i := 0) dL_law_350 rfl rfl ?_
  refine x_iload_n (pc := 351) (i := 3) dL_law_351 rfl rfl ?_
  refine x_iconst (pc := 352) (v := 1) dL_law_352 (by decide) ?_
  refine x_iadd (pc := 353) dL_law_353 ?_
  refine x_sld (pc := 354) dL_law_354 (law_in (j := 1) hk hL ⟨by decide, rfl⟩) ?_
  refine x_aload_n (pc := 355) (i := 0) dL_law_355 rfl rfl ?_
  refine x_iload_n (pc := 356) (i := 3) dL_law_356 rfl rfl ?_
  refine x_iconst (pc := 357) (v := 2) dL_law_357 (by decide) ?_
  refine x_iadd (pc := 358) dL_law_358 ?_
  refine x_sld (pc := 359) dL_law_359 (law_in (j := 2) hk hL ⟨by decide, rfl⟩) ?_
  refine x_virtT (M := kL) (pc := 360) (a := 0) (As := [.int (xs (nI k + 1).toNatClampNeg), .int (xs (nI k + 2).toNatClampNeg)]) lL_35 dL_law_360 (by decide) hw0 rfl (Nat.le_of_ble_eq_true rfl) rfl ((both_lodge (w := w) hI _ _) 0) ?_
  intro r w1 ht hk1 hr
  obtain ⟨y, rfl⟩ := mTy_int (M := kX7_lodge) rfl ht
  refine x_pushI ?_
  refine x_aload_n (pc := 363) (i := 2) dL_law_363 rfl rfl ?_
  refine x_aload_n (pc := 364) (i := 0) dL_law_364 rfl rfl ?_
  refine x_iload_n (pc := 365) (i := 3) dL_law_365 rfl rfl ?_
  refine x_iconst (pc := 366) (v := 1) dL_law_366 (by decide) ?_
  refine x_iadd (pc := 367) dL_law_367 ?_
  refine x_sld (pc := 368) dL_law_368 (law_in (j := 1) hk hL ⟨by decide, rfl⟩) ?_
  refine x_aload_n (pc := 369) (i := 0) dL_law_369 rfl rfl ?_
  refine x_iload_n (pc := 370) (i := 3) dL_law_370 rfl rfl ?_
  refine x_iconst (pc := 371) (v := 2) dL_law_371 (by decide) ?_
  refine x_iadd (pc := 372) dL_law_372 ?_
  refine x_sld (pc := 373) dL_law_373 (law_in (j := 2) hk hL ⟨by decide, rfl⟩) ?_
  obtain ⟨_, hw1⟩ := mK_obj hk1 hw44
  refine x_virt (M := kL) (pc := 374) (a := 44) (As := [.int (xs (nI k + 1).toNatClampNeg), .int (xs (nI k + 2).toNatClampNeg)]) lL_38 dL_law_374 (by decide) hw1 rfl (Nat.le_of_ble_eq_true rfl) rfl hr ?_
  rintro _ w2 ⟨rfl, hI2⟩
  refine x_pushI ?_
  refine x_icmp_eq (pc := 377) (tgt := 1113) dL_law_377 (by decide) (fun _ => ?_) (fun h => absurd rfl h)
  exact kk w2 hI2
theorem law_leave {b L : Nat} {xs : Nat → Int32} {w : mW} {k : Nat} (hL : L ≤ 3072) (hI : Inv w) (hk : k + 6 ≤ L) (kk : ∀ w2, Inv w2 → mJ (xL b L xs) 21 kL lQ 1113 [.ref 100, .ref 0, .ref 44, .int (nI k)] [] w2) : mJ (xL b L xs) 21 kL lQ 382 [.ref 100, .ref 0, .ref 44, .int (nI k)] [] w := by
  obtain ⟨_, hw0, -⟩ := hI.1.obj (a := 0) rfl
  obtain ⟨_, hw44, -⟩ := hI.1.obj (a := 44) rfl
  refine x_aload_n (pc := 382) (i := 1) dL_law_382 rfl rfl ?_
  refine x_aload_n (pc := 383) (i := 0) dL_law_383 rfl rfl ?_
  refine x_iload_n (pc := 384) (i := 3) dL_law_384 rfl rfl ?_
  refine x_iconst (pc := 385) (v := 1) dL_law_385 (by decide) ?_
  refine x_iadd (pc := 386) dL_law_386 ?_
  refine x_sld (pc := 387) dL_law_387 (law_in (j := 1) hk hL ⟨by decide, rfl⟩) ?_
  refine x_virtT (M := kL) (pc := 388) (a := 0) (As := [.int (xs (nI k + 1).toNatClampNeg)]) lL_39 dL_law_388 (by decide) hw0 rfl (Nat.le_of_ble_eq_true rfl) rfl ((both_leave (w := w) hI _) 0) ?_
  intro r w1 ht hk1 hr
  obtain ⟨y, rfl⟩ := mTy_int (M := kX7_leave) rfl ht
  refine x_pushI ?_
  refine x_aload_n (pc := 391) (i := 2) dL_law_391 rfl rfl ?_
  refine x_aload_n (pc := 392) (i := 0) dL_law_392 rfl rfl ?_
  refine x_iload_n (pc := 393) (i := 3) dL_law_393 rfl rfl ?_
  refine x_iconst (pc := 394) (v := 1) dL_law_394 (by decide) ?_
  refine x_iadd (pc := 395) dL_law_395 ?_
  refine x_sld (pc := 396) dL_law_396 (law_in (j := 1) hk hL ⟨by decide, rfl⟩) ?_
  obtain ⟨_, hw1⟩ := mK_obj hk1 hw44
  refine x_virt (M := kL) (pc := 397) (a := 44) (As := [.int (xs (nI k + 1).toNatClampNeg)]) lL_43 dL_law_397 (by decide) hw1 rfl (Nat.le_of_ble_eq_true rfl) rfl hr ?_
  rintro _ w2 ⟨rfl, hI2⟩
  refine x_pushI ?_
  refine x_icmp_eq (pc := 400) (tgt := 1113) dL_law_400 (by decide) (fun _ => ?_) (fun h => absurd rfl h)
  exact kk w2 hI2
theorem law_night {b L : Nat} {xs : Nat → Int32} {w : mW} {k : Nat} (hL : L ≤ 3072) (hI : Inv w) (hk : k + 6 ≤ L) (kk : ∀ w2, Inv w2 → mJ (xL b L xs) 21 kL lQ 1113 [.ref 100, .ref 0, .ref 44, .int (nI k)] [] w2) : mJ (xL b L xs) 21 kL lQ 405 [.ref 100, .ref 0, .ref 44, .int (nI k)] [] w := by
  obtain ⟨_, hw0, -⟩ := hI.1.obj (a := 0) rfl
  obtain ⟨_, hw44, -⟩ := hI.1.obj (a := 44) rfl
  refine x_aload_n (pc := 405) (i := 1) dL_law_405 rfl rfl ?_
  refine x_aload_n (pc := 406) (i := 0) dL_law_406 rfl rfl ?_
  refine x_iload_n (pc := 407) (i := 3) dL_law_407 rfl rfl ?_
  refine x_iconst (pc := 408) (v := 1) dL_law_408 (by decide) ?_
  refine x_iadd (pc := 409) dL_law_409 ?_
  refine x_sld (pc := 410) dL_law_410 (law_in (j := 1) hk hL ⟨by decide, rfl⟩) ?_
  refine x_virtT (M := kL) (pc := 411) (a := 0) (As := [.int (xs (nI k + 1).toNatClampNeg)]) lL_44 dL_law_411 (by decide) hw0 rfl (Nat.le_of_ble_eq_true rfl) rfl ((both_night (w := w) hI _) 0) ?_
  intro r w1 ht hk1 hr
  obtain ⟨y, rfl⟩ := mTy_int (M := kX7_night) rfl ht
  refine x_pushI ?_
  refine x_aload_n (pc := 414) (i := 2) dL_law_414 rfl rfl ?_
  refine x_aload_n (pc := 415) (i := 0) dL_law_415 rfl rfl ?_
  refine x_iload_n (pc := 416) (i := 3) dL_law_416 rfl rfl ?_
  refine x_iconst (pc := 417) (v := 1) dL_law_417 (by decide) ?_
  refine x_iadd (pc := 418) dL_law_418 ?_
  refine x_sld (pc := 419) dL_law_419 (law_in (j := 1) hk hL ⟨by decide, rfl⟩) ?_
  obtain ⟨_, hw1⟩ := mK_obj hk1 hw44
  refine x_virt (M := kL) (pc := 420) (a := 44) (As := [.int (xs (nI k + 1).toNatClampNeg)]) lL_47 dL_law_420 (by decide) hw1 rfl (Nat.le_of_ble_eq_true rfl) rfl hr ?_
  rintro _ w2 ⟨rfl, hI2⟩
  refine x_pushI ?_
  refine x_icmp_eq (pc := 423) (tgt := 1113) dL_law_423 (by decide) (fun _ => ?_) (fun h => absurd rfl h)
  exact kk w2 hI2
theorem law_season {b L : Nat} {xs : Nat → Int32} {w : mW} {k : Nat} (hL : L ≤ 3072) (hI : Inv w) (hk : k + 6 ≤ L) (kk : ∀ w2, Inv w2 → mJ (xL b L xs) 21 kL lQ 1113 [.ref 100, .ref 0, .ref 44, .int (nI k)] [] w2) : mJ (xL b L xs) 21 kL lQ 428 [.ref 100, .ref 0, .ref 44, .int (nI k)] [] w := by
  obtain ⟨_, hw0, -⟩ := hI.1.obj (a := 0) rfl
  obtain ⟨_, hw44, -⟩ := hI.1.obj (a := 44) rfl
  refine x_aload_n (pc := 428) (i := 1) dL_law_428 rfl rfl ?_
  refine x_aload_n (pc := 429) (i := 0) dL_law_429 rfl rfl ?_
  refine x_iload_n (pc := 430) (i := 3) dL_law_430 rfl rfl ?_
  refine x_iconst (pc := 431) (v := 1) dL_law_431 (by decide) ?_
  refine x_iadd (pc := 432) dL_law_432 ?_
  refine x_sld (pc := 433) dL_law_433 (law_in (j := 1) hk hL ⟨by decide, rfl⟩) ?_
  refine x_aload_n (pc := 434) (i := 0) dL_law_434 rfl rfl ?_
  refine x_iload_n (pc := 435) (i := 3) dL_law_435 rfl rfl ?_
  refine x_iconst (pc := 436) (v := 2) dL_law_436 (by decide) ?_
  refine x_iadd (pc := 437) dL_law_437 ?_
  refine x_sld (pc := 438) dL_law_438 (law_in (j := 2) hk hL ⟨by decide, rfl⟩) ?_
  refine x_aload_n (pc := 439) (i := 0) dL_law_439 rfl rfl ?_
  refine x_iload_n (pc := 440) (i := 3) dL_law_440 rfl rfl ?_
  refine x_iconst (pc := 441) (v := 3) dL_law_441 (by decide) ?_
  refine x_iadd (pc := 442) dL_law_442 ?_
  refine x_sld (pc := 443) dL_law_443 (law_in (j := 3) hk hL ⟨by decide, rfl⟩) ?_
  refine x_aload_n (pc := 444) (i := 0) dL_law_444 rfl rfl ?_
  refine x_iload_n (pc := 445) (i := 3) dL_law_445 rfl rfl ?_
  refine x_iconst (pc := 446) (v := 4) dL_law_446 (by decide) ?_
  refine x_iadd (pc := 447) dL_law_447 ?_
  refine x_sld (pc := 448) dL_law_448 (law_in (j := 4) hk hL ⟨by decide, rfl⟩) ?_
  refine x_aload_n (pc := 449) (i := 0) dL_law_449 rfl rfl ?_
  refine x_iload_n (pc := 450) (i := 3) dL_law_450 rfl rfl ?_
  refine x_iconst (pc := 451) (v := 5) dL_law_451 (by decide) ?_
  refine x_iadd (pc := 452) dL_law_452 ?_
  refine x_sld (pc := 453) dL_law_453 (law_in (j := 5) hk hL ⟨by decide, rfl⟩) ?_
  refine x_virtT (M := kL) (pc := 454) (a := 0) (As := [.int (xs (nI k + 1).toNatClampNeg), .int (xs (nI k + 2).toNatClampNeg), .int (xs (nI k + 3).toNatClampNeg), .int (xs (nI k + 4).toNatClampNeg), .int (xs (nI k + 5).toNatClampNeg)]) lL_48 dL_law_454 (by decide) hw0 rfl (Nat.le_of_ble_eq_true rfl) rfl ((both_season (w := w) hI _ _ _ _ _) 0) ?_
  intro r w1 ht hk1 hr
  obtain ⟨y, rfl⟩ := mTy_int (M := kX7_season) rfl ht
  refine x_pushI ?_
  refine x_aload_n (pc := 457) (i := 2) dL_law_457 rfl rfl ?_
  refine x_aload_n (pc := 458) (i := 0) dL_law_458 rfl rfl ?_
  refine x_iload_n (pc := 459) (i := 3) dL_law_459 rfl rfl ?_
  refine x_iconst (pc := 460) (v := 1) dL_law_460 (by decide) ?_
  refine x_iadd (pc := 461) dL_law_461 ?_
  refine x_sld (pc := 462) dL_law_462 (law_in (j := 1) hk hL ⟨by decide, rfl⟩) ?_
  refine x_aload_n (pc := 463) (i := 0) dL_law_463 rfl rfl ?_
  refine x_iload_n (pc := 464) (i := 3) dL_law_464 rfl rfl ?_
  refine x_iconst (pc := 465) (v := 2) dL_law_465 (by decide) ?_
  refine x_iadd (pc := 466) dL_law_466 ?_
  refine x_sld (pc := 467) dL_law_467 (law_in (j := 2) hk hL ⟨by decide, rfl⟩) ?_
  refine x_aload_n (pc := 468) (i := 0) dL_law_468 rfl rfl ?_
  refine x_iload_n (pc := 469) (i := 3) dL_law_469 rfl rfl ?_
  refine x_iconst (pc := 470) (v := 3) dL_law_470 (by decide) ?_
  refine x_iadd (pc := 471) dL_law_471 ?_
  refine x_sld (pc := 472) dL_law_472 (law_in (j := 3) hk hL ⟨by decide, rfl⟩) ?_
  refine x_aload_n (pc := 473) (i := 0) dL_law_473 rfl rfl ?_
  refine x_iload_n (pc := 474) (i := 3) dL_law_474 rfl rfl ?_
  refine x_iconst (pc := 475) (v := 4) dL_law_475 (by decide) ?_
  refine x_iadd (pc := 476) dL_law_476 ?_
  refine x_sld (pc := 477) dL_law_477 (law_in (j := 4) hk hL ⟨by decide, rfl⟩) ?_
  refine x_aload_n (pc := 478) (i := 0) dL_law_478 rfl rfl ?_
  refine x_iload_n (pc := 479) (i := 3) dL_law_479 rfl rfl ?_
  refine x_iconst (pc := 480) (v := 5) dL_law_480 (by decide) ?_
  refine x_iadd (pc := 481) dL_law_481 ?_
  refine x_sld (pc := 482) dL_law_482 (law_in (j := 5) hk hL ⟨by decide, rfl⟩) ?_
  obtain ⟨_, hw1⟩ := mK_obj hk1 hw44
  refine x_virt (M := kL) (pc := 483) (a := 44) (As := [.int (xs (nI k + 1).toNatClampNeg), .int (xs (nI k + 2).toNatClampNeg), .int (xs (nI k + 3).toNatClampNeg), .int (xs (nI k + 4).toNatClampNeg), .int (xs (nI k + 5).toNatClampNeg)]) lL_52 dL_law_483 (by decide) hw1 rfl (Nat.le_of_ble_eq_true rfl) rfl hr ?_
  rintro _ w2 ⟨rfl, hI2⟩
  refine x_pushI ?_
  refine x_icmp_eq (pc := 486) (tgt := 1113) dL_law_486 (by decide) (fun _ => ?_) (fun h => absurd rfl h)
  exact kk w2 hI2
theorem law_housed {b L : Nat} {xs : Nat → Int32} {w : mW} {k : Nat} (hL : L ≤ 3072) (hI : Inv w) (hk : k + 6 ≤ L) (kk : ∀ w2, Inv w2 → mJ (xL b L xs) 21 kL lQ 1113 [.ref 100, .ref 0, .ref 44, .int (nI k)] [] w2) : mJ (xL b L xs) 21 kL lQ 491 [.ref 100, .ref 0, .ref 44, .int (nI k)] [] w := by
  obtain ⟨_, hw0, -⟩ := hI.1.obj (a := 0) rfl
  obtain ⟨_, hw44, -⟩ := hI.1.obj (a := 44) rfl
  refine x_aload_n (pc := 491) (i := 1) dL_law_491 rfl rfl ?_
  refine x_aload_n (pc := 492) (i := 0) dL_law_492 rfl rfl ?_
  refine x_iload_n (pc := 493) (i := 3) dL_law_493 rfl rfl ?_
  refine x_iconst (pc := 494) (v := 1) dL_law_494 (by decide) ?_
  refine x_iadd (pc := 495) dL_law_495 ?_
  refine x_sld (pc := 496) dL_law_496 (law_in (j := 1) hk hL ⟨by decide, rfl⟩) ?_
  refine x_virtT (M := kL) (pc := 497) (a := 0) (As := [.int (xs (nI k + 1).toNatClampNeg)]) lL_53 dL_law_497 (by decide) hw0 rfl (Nat.le_of_ble_eq_true rfl) rfl ((both_housed (w := w) hI _) 0) ?_
  intro r w1 ht hk1 hr
  obtain ⟨y, rfl⟩ := mTy_int (M := kX7_housed) rfl ht
  refine x_pushI ?_
  refine x_aload_n (pc := 500) (i := 2) dL_law_500 rfl rfl ?_
  refine x_aload_n (pc := 501) (i := 0) dL_law_501 rfl rfl ?_
  refine x_iload_n (pc := 502) (i := 3) dL_law_502 rfl rfl ?_
  refine x_iconst (pc := 503) (v := 1) dL_law_503 (by decide) ?_
  refine x_iadd (pc := 504) dL_law_504 ?_
  refine x_sld (pc := 505) dL_law_505 (law_in (j := 1) hk hL ⟨by decide, rfl⟩) ?_
  obtain ⟨_, hw1⟩ := mK_obj hk1 hw44
  refine x_virt (M := kL) (pc := 506) (a := 44) (As := [.int (xs (nI k + 1).toNatClampNeg)]) lL_56 dL_law_506 (by decide) hw1 rfl (Nat.le_of_ble_eq_true rfl) rfl hr ?_
  rintro _ w2 ⟨rfl, hI2⟩
  refine x_pushI ?_
  refine x_icmp_eq (pc := 509) (tgt := 1113) dL_law_509 (by decide) (fun _ => ?_) (fun h => absurd rfl h)
  exact kk w2 hI2
theorem law_ploughed {b L : Nat} {xs : Nat → Int32} {w : mW} {k : Nat} (hL : L ≤ 3072) (hI : Inv w) (hk : k + 6 ≤ L) (kk : ∀ w2, Inv w2 → mJ (xL b L xs) 21 kL lQ 1113 [.ref 100, .ref 0, .ref 44, .int (nI k)] [] w2) : mJ (xL b L xs) 21 kL lQ 514 [.ref 100, .ref 0, .ref 44, .int (nI k)] [] w := by
  obtain ⟨_, hw0, -⟩ := hI.1.obj (a := 0) rfl
  obtain ⟨_, hw44, -⟩ := hI.1.obj (a := 44) rfl
  refine x_aload_n (pc := 514) (i := 1) dL_law_514 rfl rfl ?_
  refine x_aload_n (pc := 515) (i := 0) dL_law_515 rfl rfl ?_
  refine x_iload_n (pc := 516) (i := 3) dL_law_516 rfl rfl ?_
  refine x_iconst (pc := 517) (v := 1) dL_law_517 (by decide) ?_
  refine x_iadd (pc := 518) dL_law_518 ?_
  refine x_sld (pc := 519) dL_law_519 (law_in (j := 1) hk hL ⟨by decide, rfl⟩) ?_
  refine x_virtT (M := kL) (pc := 520) (a := 0) (As := [.int (xs (nI k + 1).toNatClampNeg)]) lL_57 dL_law_520 (by decide) hw0 rfl (Nat.le_of_ble_eq_true rfl) rfl ((both_ploughed (w := w) hI _) 0) ?_
  intro r w1 ht hk1 hr
  obtain ⟨y, rfl⟩ := mTy_int (M := kX7_ploughed) rfl ht
  refine x_pushI ?_
  refine x_aload_n (pc := 523) (i := 2) dL_law_523 rfl rfl ?_
  refine x_aload_n (pc := 524) (i := 0) dL_law_524 rfl rfl ?_
  refine x_iload_n (pc := 525) (i := 3) dL_law_525 rfl rfl ?_
  refine x_iconst (pc := 526) (v := 1) dL_law_526 (by decide) ?_
  refine x_iadd (pc := 527) dL_law_527 ?_
  refine x_sld (pc := 528) dL_law_528 (law_in (j := 1) hk hL ⟨by decide, rfl⟩) ?_
  obtain ⟨_, hw1⟩ := mK_obj hk1 hw44
  refine x_virt (M := kL) (pc := 529) (a := 44) (As := [.int (xs (nI k + 1).toNatClampNeg)]) lL_60 dL_law_529 (by decide) hw1 rfl (Nat.le_of_ble_eq_true rfl) rfl hr ?_
  rintro _ w2 ⟨rfl, hI2⟩
  refine x_pushI ?_
  refine x_icmp_eq (pc := 532) (tgt := 1113) dL_law_532 (by decide) (fun _ => ?_) (fun h => absurd rfl h)
  exact kk w2 hI2
theorem law_way {b L : Nat} {xs : Nat → Int32} {w : mW} {k : Nat} (hL : L ≤ 3072) (hI : Inv w) (hk : k + 6 ≤ L) (kk : ∀ w2, Inv w2 → mJ (xL b L xs) 21 kL lQ 1113 [.ref 100, .ref 0, .ref 44, .int (nI k)] [] w2) : mJ (xL b L xs) 21 kL lQ 537 [.ref 100, .ref 0, .ref 44, .int (nI k)] [] w := by
  obtain ⟨_, hw0, -⟩ := hI.1.obj (a := 0) rfl
  obtain ⟨_, hw44, -⟩ := hI.1.obj (a := 44) rfl
  refine x_aload_n (pc := 537) (i := 1) dL_law_537 rfl rfl ?_
  refine x_aload_n (pc := 538) (i := 0) dL_law_538 rfl rfl ?_
  refine x_iload_n (pc := 539) (i := 3) dL_law_539 rfl rfl ?_
  refine x_iconst (pc := 540) (v := 1) dL_law_540 (by decide) ?_
  refine x_iadd (pc := 541) dL_law_541 ?_
  refine x_sld (pc := 542) dL_law_542 (law_in (j := 1) hk hL ⟨by decide, rfl⟩) ?_
  refine x_aload_n (pc := 543) (i := 0) dL_law_543 rfl rfl ?_
  refine x_iload_n (pc := 544) (i := 3) dL_law_544 rfl rfl ?_
  refine x_iconst (pc := 545) (v := 2) dL_law_545 (by decide) ?_
  refine x_iadd (pc := 546) dL_law_546 ?_
  refine x_sld (pc := 547) dL_law_547 (law_in (j := 2) hk hL ⟨by decide, rfl⟩) ?_
  refine x_virtT (M := kL) (pc := 548) (a := 0) (As := [.int (xs (nI k + 1).toNatClampNeg), .int (xs (nI k + 2).toNatClampNeg)]) lL_61 dL_law_548 (by decide) hw0 rfl (Nat.le_of_ble_eq_true rfl) rfl ((both_way (w := w) hI _ _) 0) ?_
  intro r w1 ht hk1 hr
  obtain ⟨y, rfl⟩ := mTy_int (M := kX7_way) rfl ht
  refine x_pushI ?_
  refine x_aload_n (pc := 551) (i := 2) dL_law_551 rfl rfl ?_
  refine x_aload_n (pc := 552) (i := 0) dL_law_552 rfl rfl ?_
  refine x_iload_n (pc := 553) (i := 3) dL_law_553 rfl rfl ?_
  refine x_iconst (pc := 554) (v := 1) dL_law_554 (by decide) ?_
  refine x_iadd (pc := 555) dL_law_555 ?_
  refine x_sld (pc := 556) dL_law_556 (law_in (j := 1) hk hL ⟨by decide, rfl⟩) ?_
  refine x_aload_n (pc := 557) (i := 0) dL_law_557 rfl rfl ?_
  refine x_iload_n (pc := 558) (i := 3) dL_law_558 rfl rfl ?_
  refine x_iconst (pc := 559) (v := 2) dL_law_559 (by decide) ?_
  refine x_iadd (pc := 560) dL_law_560 ?_
  refine x_sld (pc := 561) dL_law_561 (law_in (j := 2) hk hL ⟨by decide, rfl⟩) ?_
  obtain ⟨_, hw1⟩ := mK_obj hk1 hw44
  refine x_virt (M := kL) (pc := 562) (a := 44) (As := [.int (xs (nI k + 1).toNatClampNeg), .int (xs (nI k + 2).toNatClampNeg)]) lL_64 dL_law_562 (by decide) hw1 rfl (Nat.le_of_ble_eq_true rfl) rfl hr ?_
  rintro _ w2 ⟨rfl, hI2⟩
  refine x_pushI ?_
  refine x_icmp_eq (pc := 565) (tgt := 1113) dL_law_565 (by decide) (fun _ => ?_) (fun h => absurd rfl h)
  exact kk w2 hI2
theorem law_lain {b L : Nat} {xs : Nat → Int32} {w : mW} {k : Nat} (hL : L ≤ 3072) (hI : Inv w) (hk : k + 6 ≤ L) (kk : ∀ w2, Inv w2 → mJ (xL b L xs) 21 kL lQ 1113 [.ref 100, .ref 0, .ref 44, .int (nI k)] [] w2) : mJ (xL b L xs) 21 kL lQ 570 [.ref 100, .ref 0, .ref 44, .int (nI k)] [] w := by
  obtain ⟨_, hw0, -⟩ := hI.1.obj (a := 0) rfl
  obtain ⟨_, hw44, -⟩ := hI.1.obj (a := 44) rfl
  refine x_aload_n (pc := 570) (i := 1) dL_law_570 rfl rfl ?_
  refine x_aload_n (pc := 571) (i := 0) dL_law_571 rfl rfl ?_
  refine x_iload_n (pc := 572) (i := 3) dL_law_572 rfl rfl ?_
  refine x_iconst (pc := 573) (v := 1) dL_law_573 (by decide) ?_
  refine x_iadd (pc := 574) dL_law_574 ?_
  refine x_sld (pc := 575) dL_law_575 (law_in (j := 1) hk hL ⟨by decide, rfl⟩) ?_
  refine x_aload_n (pc := 576) (i := 0) dL_law_576 rfl rfl ?_
  refine x_iload_n (pc := 577) (i := 3) dL_law_577 rfl rfl ?_
  refine x_iconst (pc := 578) (v := 2) dL_law_578 (by decide) ?_
  refine x_iadd (pc := 579) dL_law_579 ?_
  refine x_sld (pc := 580) dL_law_580 (law_in (j := 2) hk hL ⟨by decide, rfl⟩) ?_
  refine x_aload_n (pc := 581) (i := 0) dL_law_581 rfl rfl ?_
  refine x_iload_n (pc := 582) (i := 3) dL_law_582 rfl rfl ?_
  refine x_iconst (pc := 583) (v := 3) dL_law_583 (by decide) ?_
  refine x_iadd (pc := 584) dL_law_584 ?_
  refine x_sld (pc := 585) dL_law_585 (law_in (j := 3) hk hL ⟨by decide, rfl⟩) ?_
  refine x_aload_n (pc := 586) (i := 0) dL_law_586 rfl rfl ?_
  refine x_iload_n (pc := 587) (i := 3) dL_law_587 rfl rfl ?_
  refine x_iconst (pc := 588) (v := 4) dL_law_588 (by decide) ?_
  refine x_iadd (pc := 589) dL_law_589 ?_
  refine x_sld (pc := 590) dL_law_590 (law_in (j := 4) hk hL ⟨by decide, rfl⟩) ?_
  refine x_virtT (M := kL) (pc := 591) (a := 0) (As := [.int (xs (nI k + 1).toNatClampNeg), .int (xs (nI k + 2).toNatClampNeg), .int (xs (nI k + 3).toNatClampNeg), .int (xs (nI k + 4).toNatClampNeg)]) lL_65 dL_law_591 (by decide) hw0 rfl (Nat.le_of_ble_eq_true rfl) rfl ((both_lain (w := w) hI _ _ _ _) 0) ?_
  intro r w1 ht hk1 hr
  obtain ⟨y, rfl⟩ := mTy_int (M := kX7_lain) rfl ht
  refine x_pushI ?_
  refine x_aload_n (pc := 594) (i := 2) dL_law_594 rfl rfl ?_
  refine x_aload_n (pc := 595) (i := 0) dL_law_595 rfl rfl ?_
  refine x_iload_n (pc := 596) (i := 3) dL_law_596 rfl rfl ?_
  refine x_iconst (pc := 597) (v := 1) dL_law_597 (by decide) ?_
  refine x_iadd (pc := 598) dL_law_598 ?_
  refine x_sld (pc := 599) dL_law_599 (law_in (j := 1) hk hL ⟨by decide, rfl⟩) ?_
  refine x_aload_n (pc := 600) (i := 0) dL_law_600 rfl rfl ?_
  refine x_iload_n (pc := 601) (i := 3) dL_law_601 rfl rfl ?_
  refine x_iconst (pc := 602) (v := 2) dL_law_602 (by decide) ?_
  refine x_iadd (pc := 603) dL_law_603 ?_
  refine x_sld (pc := 604) dL_law_604 (law_in (j := 2) hk hL ⟨by decide, rfl⟩) ?_
  refine x_aload_n (pc := 605) (i := 0) dL_law_605 rfl rfl ?_
  refine x_iload_n (pc := 606) (i := 3) dL_law_606 rfl rfl ?_
  refine x_iconst (pc := 607) (v := 3) dL_law_607 (by decide) ?_
  refine x_iadd (pc := 608) dL_law_608 ?_
  refine x_sld (pc := 609) dL_law_609 (law_in (j := 3) hk hL ⟨by decide, rfl⟩) ?_
  refine x_aload_n (pc := 610) (i := 0) dL_law_610 rfl rfl ?_
  refine x_iload_n (pc := 611) (i := 3) dL_law_611 rfl rfl ?_
  refine x_iconst (pc := 612) (v := 4) dL_law_612 (by decide) ?_
  refine x_iadd (pc := 613) dL_law_613 ?_
  refine x_sld (pc := 614) dL_law_614 (law_in (j := 4) hk hL ⟨by decide, rfl⟩) ?_
  obtain ⟨_, hw1⟩ := mK_obj hk1 hw44
  refine x_virt (M := kL) (pc := 615) (a := 44) (As := [.int (xs (nI k + 1).toNatClampNeg), .int (xs (nI k + 2).toNatClampNeg), .int (xs (nI k + 3).toNatClampNeg), .int (xs (nI k + 4).toNatClampNeg)]) lL_68 dL_law_615 (by decide) hw1 rfl (Nat.le_of_ble_eq_true rfl) rfl hr ?_
  rintro _ w2 ⟨rfl, hI2⟩
  refine x_pushI ?_
  refine x_icmp_eq (pc := 618) (tgt := 1113) dL_law_618 (by decide) (fun _ => ?_) (fun h => absurd rfl h)
  exact kk w2 hI2
theorem law_reading {b L : Nat} {xs : Nat → Int32} {w : mW} {k : Nat} (hL : L ≤ 3072) (hI : Inv w) (hk : k + 6 ≤ L) (kk : ∀ w2, Inv w2 → mJ (xL b L xs) 21 kL lQ 1113 [.ref 100, .ref 0, .ref 44, .int (nI k)] [] w2) : mJ (xL b L xs) 21 kL lQ 623 [.ref 100, .ref 0, .ref 44, .int (nI k)] [] w := by
  obtain ⟨_, hw0, -⟩ := hI.1.obj (a := 0) rfl
  obtain ⟨_, hw44, -⟩ := hI.1.obj (a := 44) rfl
  refine x_aload_n (pc := 623) (i := 1) dL_law_623 rfl rfl ?_
  refine x_aload_n (pc := 624) (i := 0) dL_law_624 rfl rfl ?_
  refine x_iload_n (pc := 625) (i := 3) dL_law_625 rfl rfl ?_
  refine x_iconst (pc := 626) (v := 1) dL_law_626 (by decide) ?_
  refine x_iadd (pc := 627) dL_law_627 ?_
  refine x_sld (pc := 628) dL_law_628 (law_in (j := 1) hk hL ⟨by decide, rfl⟩) ?_
  refine x_aload_n (pc := 629) (i := 0) dL_law_629 rfl rfl ?_
  refine x_iload_n (pc := 630) (i := 3) dL_law_630 rfl rfl ?_
  refine x_iconst (pc := 631) (v := 2) dL_law_631 (by decide) ?_
  refine x_iadd (pc := 632) dL_law_632 ?_
  refine x_sld (pc := 633) dL_law_633 (law_in (j := 2) hk hL ⟨by decide, rfl⟩) ?_
  refine x_aload_n (pc := 634) (i := 0) dL_law_634 rfl rfl ?_
  refine x_iload_n (pc := 635) (i := 3) dL_law_635 rfl rfl ?_
  refine x_iconst (pc := 636) (v := 3) dL_law_636 (by decide) ?_
  refine x_iadd (pc := 637) dL_law_637 ?_
  refine x_sld (pc := 638) dL_law_638 (law_in (j := 3) hk hL ⟨by decide, rfl⟩) ?_
  refine x_virtT (M := kL) (pc := 639) (a := 0) (As := [.int (xs (nI k + 1).toNatClampNeg), .int (xs (nI k + 2).toNatClampNeg), .int (xs (nI k + 3).toNatClampNeg)]) lL_69 dL_law_639 (by decide) hw0 rfl (Nat.le_of_ble_eq_true rfl) rfl ((both_reading (w := w) hI _ _ _) 0) ?_
  intro r w1 ht hk1 hr
  obtain ⟨y, rfl⟩ := mTy_int (M := kX7_reading) rfl ht
  refine x_pushI ?_
  refine x_aload_n (pc := 642) (i := 2) dL_law_642 rfl rfl ?_
  refine x_aload_n (pc := 643) (i := 0) dL_law_643 rfl rfl ?_
  refine x_iload_n (pc := 644) (i := 3) dL_law_644 rfl rfl ?_
  refine x_iconst (pc := 645) (v := 1) dL_law_645 (by decide) ?_
  refine x_iadd (pc := 646) dL_law_646 ?_
  refine x_sld (pc := 647) dL_law_647 (law_in (j := 1) hk hL ⟨by decide, rfl⟩) ?_
  refine x_aload_n (pc := 648) (i := 0) dL_law_648 rfl rfl ?_
  refine x_iload_n (pc := 649) (i := 3) dL_law_649 rfl rfl ?_
  refine x_iconst (pc := 650) (v := 2) dL_law_650 (by decide) ?_
  refine x_iadd (pc := 651) dL_law_651 ?_
  refine x_sld (pc := 652) dL_law_652 (law_in (j := 2) hk hL ⟨by decide, rfl⟩) ?_
  refine x_aload_n (pc := 653) (i := 0) dL_law_653 rfl rfl ?_
  refine x_iload_n (pc := 654) (i := 3) dL_law_654 rfl rfl ?_
  refine x_iconst (pc := 655) (v := 3) dL_law_655 (by decide) ?_
  refine x_iadd (pc := 656) dL_law_656 ?_
  refine x_sld (pc := 657) dL_law_657 (law_in (j := 3) hk hL ⟨by decide, rfl⟩) ?_
  obtain ⟨_, hw1⟩ := mK_obj hk1 hw44
  refine x_virt (M := kL) (pc := 658) (a := 44) (As := [.int (xs (nI k + 1).toNatClampNeg), .int (xs (nI k + 2).toNatClampNeg), .int (xs (nI k + 3).toNatClampNeg)]) lL_73 dL_law_658 (by decide) hw1 rfl (Nat.le_of_ble_eq_true rfl) rfl hr ?_
  rintro _ w2 ⟨rfl, hI2⟩
  refine x_pushI ?_
  refine x_icmp_eq (pc := 661) (tgt := 1113) dL_law_661 (by decide) (fun _ => ?_) (fun h => absurd rfl h)
  exact kk w2 hI2
theorem law_back {b L : Nat} {xs : Nat → Int32} {w : mW} {k : Nat} (hL : L ≤ 3072) (hI : Inv w) (hk : k + 6 ≤ L) (kk : ∀ w2, Inv w2 → mJ (xL b L xs) 21 kL lQ 1113 [.ref 100, .ref 0, .ref 44, .int (nI k)] [] w2) : mJ (xL b L xs) 21 kL lQ 666 [.ref 100, .ref 0, .ref 44, .int (nI k)] [] w := by
  obtain ⟨_, hw0, -⟩ := hI.1.obj (a := 0) rfl
  obtain ⟨_, hw44, -⟩ := hI.1.obj (a := 44) rfl
  refine x_aload_n (pc := 666) (i := 1) dL_law_666 rfl rfl ?_
  refine x_aload_n (pc := 667) (i := 0) dL_law_667 rfl rfl ?_
  refine x_iload_n (pc := 668) (i := 3) dL_law_668 rfl rfl ?_
  refine x_iconst (pc := 669) (v := 1) dL_law_669 (by decide) ?_
  refine x_iadd (pc := 670) dL_law_670 ?_
  refine x_sld (pc := 671) dL_law_671 (law_in (j := 1) hk hL ⟨by decide, rfl⟩) ?_
  refine x_virtT (M := kL) (pc := 672) (a := 0) (As := [.int (xs (nI k + 1).toNatClampNeg)]) lL_74 dL_law_672 (by decide) hw0 rfl (Nat.le_of_ble_eq_true rfl) rfl ((both_back (w := w) hI _) 0) ?_
  intro r w1 ht hk1 hr
  obtain ⟨y, rfl⟩ := mTy_int (M := kX7_back) rfl ht
  refine x_pushI ?_
  refine x_aload_n (pc := 675) (i := 2) dL_law_675 rfl rfl ?_
  refine x_aload_n (pc := 676) (i := 0) dL_law_676 rfl rfl ?_
  refine x_iload_n (pc := 677) (i := 3) dL_law_677 rfl rfl ?_
  refine x_iconst (pc := 678) (v := 1) dL_law_678 (by decide) ?_
  refine x_iadd (pc := 679) dL_law_679 ?_
  refine x_sld (pc := 680) dL_law_680 (law_in (j := 1) hk hL ⟨by decide, rfl⟩) ?_
  obtain ⟨_, hw1⟩ := mK_obj hk1 hw44
  refine x_virt (M := kL) (pc := 681) (a := 44) (As := [.int (xs (nI k + 1).toNatClampNeg)]) lL_77 dL_law_681 (by decide) hw1 rfl (Nat.le_of_ble_eq_true rfl) rfl hr ?_
  rintro _ w2 ⟨rfl, hI2⟩
  refine x_pushI ?_
  refine x_icmp_eq (pc := 684) (tgt := 1113) dL_law_684 (by decide) (fun _ => ?_) (fun h => absurd rfl h)
  exact kk w2 hI2
theorem law_rooms {b L : Nat} {xs : Nat → Int32} {w : mW} {k : Nat} (hL : L ≤ 3072) (hI : Inv w) (hk : k + 6 ≤ L) (kk : ∀ w2, Inv w2 → mJ (xL b L xs) 21 kL lQ 1113 [.ref 100, .ref 0, .ref 44, .int (nI k)] [] w2) : mJ (xL b L xs) 21 kL lQ 689 [.ref 100, .ref 0, .ref 44, .int (nI k)] [] w := by
  obtain ⟨_, hw0, -⟩ := hI.1.obj (a := 0) rfl
  obtain ⟨_, hw44, -⟩ := hI.1.obj (a := 44) rfl
  refine x_aload_n (pc := 689) (i := 1) dL_law_689 rfl rfl ?_
  refine x_aload_n (pc := 690) (i := 0) dL_law_690 rfl rfl ?_
  refine x_iload_n (pc := 691) (i := 3) dL_law_691 rfl rfl ?_
  refine x_iconst (pc := 692) (v := 1) dL_law_692 (by decide) ?_
  refine x_iadd (pc := 693) dL_law_693 ?_
  refine x_sld (pc := 694) dL_law_694 (law_in (j := 1) hk hL ⟨by decide, rfl⟩) ?_
  refine x_virtT (M := kL) (pc := 695) (a := 0) (As := [.int (xs (nI k + 1).toNatClampNeg)]) lL_78 dL_law_695 (by decide) hw0 rfl (Nat.le_of_ble_eq_true rfl) rfl ((both_rooms (w := w) hI _) 0) ?_
  intro r w1 ht hk1 hr
  obtain ⟨y, rfl⟩ := mTy_int (M := kX7_rooms) rfl ht
  refine x_pushI ?_
  refine x_aload_n (pc := 698) (i := 2) dL_law_698 rfl rfl ?_
  refine x_aload_n (pc := 699) (i := 0) dL_law_699 rfl rfl ?_
  refine x_iload_n (pc := 700) (i := 3) dL_law_700 rfl rfl ?_
  refine x_iconst (pc := 701) (v := 1) dL_law_701 (by decide) ?_
  refine x_iadd (pc := 702) dL_law_702 ?_
  refine x_sld (pc := 703) dL_law_703 (law_in (j := 1) hk hL ⟨by decide, rfl⟩) ?_
  obtain ⟨_, hw1⟩ := mK_obj hk1 hw44
  refine x_virt (M := kL) (pc := 704) (a := 44) (As := [.int (xs (nI k + 1).toNatClampNeg)]) lL_81 dL_law_704 (by decide) hw1 rfl (Nat.le_of_ble_eq_true rfl) rfl hr ?_
  rintro _ w2 ⟨rfl, hI2⟩
  refine x_pushI ?_
  refine x_icmp_eq (pc := 707) (tgt := 1113) dL_law_707 (by decide) (fun _ => ?_) (fun h => absurd rfl h)
  exact kk w2 hI2
theorem law_kinds {b L : Nat} {xs : Nat → Int32} {w : mW} {k : Nat} (hL : L ≤ 3072) (hI : Inv w) (hk : k + 6 ≤ L) (kk : ∀ w2, Inv w2 → mJ (xL b L xs) 21 kL lQ 1113 [.ref 100, .ref 0, .ref 44, .int (nI k)] [] w2) : mJ (xL b L xs) 21 kL lQ 712 [.ref 100, .ref 0, .ref 44, .int (nI k)] [] w := by
  obtain ⟨_, hw0, -⟩ := hI.1.obj (a := 0) rfl
  obtain ⟨_, hw44, -⟩ := hI.1.obj (a := 44) rfl
  refine x_aload_n (pc := 712) (i := 1) dL_law_712 rfl rfl ?_
  refine x_aload_n (pc := 713) (i := 0) dL_law_713 rfl rfl ?_
  refine x_iload_n (pc := 714) (i := 3) dL_law_714 rfl rfl ?_
  refine x_iconst (pc := 715) (v := 1) dL_law_715 (by decide) ?_
  refine x_iadd (pc := 716) dL_law_716 ?_
  refine x_sld (pc := 717) dL_law_717 (law_in (j := 1) hk hL ⟨by decide, rfl⟩) ?_
  refine x_virtT (M := kL) (pc := 718) (a := 0) (As := [.int (xs (nI k + 1).toNatClampNeg)]) lL_82 dL_law_718 (by decide) hw0 rfl (Nat.le_of_ble_eq_true rfl) rfl ((both_kinds (w := w) hI _) 0) ?_
  intro r w1 ht hk1 hr
  obtain ⟨y, rfl⟩ := mTy_int (M := kX7_kinds) rfl ht
  refine x_pushI ?_
  refine x_aload_n (pc := 721) (i := 2) dL_law_721 rfl rfl ?_
  refine x_aload_n (pc := 722) (i := 0) dL_law_722 rfl rfl ?_
  refine x_iload_n (pc := 723) (i := 3) dL_law_723 rfl rfl ?_
  refine x_iconst (pc := 724) (v := 1) dL_law_724 (by decide) ?_
  refine x_iadd (pc := 725) dL_law_725 ?_
  refine x_sld (pc := 726) dL_law_726 (law_in (j := 1) hk hL ⟨by decide, rfl⟩) ?_
  obtain ⟨_, hw1⟩ := mK_obj hk1 hw44
  refine x_virt (M := kL) (pc := 727) (a := 44) (As := [.int (xs (nI k + 1).toNatClampNeg)]) lL_85 dL_law_727 (by decide) hw1 rfl (Nat.le_of_ble_eq_true rfl) rfl hr ?_
  rintro _ w2 ⟨rfl, hI2⟩
  refine x_pushI ?_
  refine x_icmp_eq (pc := 730) (tgt := 1113) dL_law_730 (by decide) (fun _ => ?_) (fun h => absurd rfl h)
  exact kk w2 hI2
theorem law_odds {b L : Nat} {xs : Nat → Int32} {w : mW} {k : Nat} (hL : L ≤ 3072) (hI : Inv w) (hk : k + 6 ≤ L) (kk : ∀ w2, Inv w2 → mJ (xL b L xs) 21 kL lQ 1113 [.ref 100, .ref 0, .ref 44, .int (nI k)] [] w2) : mJ (xL b L xs) 21 kL lQ 735 [.ref 100, .ref 0, .ref 44, .int (nI k)] [] w := by
  obtain ⟨_, hw0, -⟩ := hI.1.obj (a := 0) rfl
  obtain ⟨_, hw44, -⟩ := hI.1.obj (a := 44) rfl
  refine x_aload_n (pc := 735) (i := 1) dL_law_735 rfl rfl ?_
  refine x_aload_n (pc := 736) (i := 0) dL_law_736 rfl rfl ?_
  refine x_iload_n (pc := 737) (i := 3) dL_law_737 rfl rfl ?_
  refine x_iconst (pc := 738) (v := 1) dL_law_738 (by decide) ?_
  refine x_iadd (pc := 739) dL_law_739 ?_
  refine x_sld (pc := 740) dL_law_740 (law_in (j := 1) hk hL ⟨by decide, rfl⟩) ?_
  refine x_aload_n (pc := 741) (i := 0) dL_law_741 rfl rfl ?_
  refine x_iload_n (pc := 742) (i := 3) dL_law_742 rfl rfl ?_
  refine x_iconst (pc := 743) (v := 2) dL_law_743 (by decide) ?_
  refine x_iadd (pc := 744) dL_law_744 ?_
  refine x_sld (pc := 745) dL_law_745 (law_in (j := 2) hk hL ⟨by decide, rfl⟩) ?_
  refine x_virtT (M := kL) (pc := 746) (a := 0) (As := [.int (xs (nI k + 1).toNatClampNeg), .int (xs (nI k + 2).toNatClampNeg)]) lL_86 dL_law_746 (by decide) hw0 rfl (Nat.le_of_ble_eq_true rfl) rfl ((both_odds (w := w) hI _ _) 0) ?_
  intro r w1 ht hk1 hr
  obtain ⟨⟨y, rfl⟩, hr⟩ := hr
  refine x_pushL ?_
  refine x_aload_n (pc := 749) (i := 2) dL_law_749 rfl rfl ?_
  refine x_aload_n (pc := 750) (i := 0) dL_law_750 rfl rfl ?_
  refine x_iload_n (pc := 751) (i := 3) dL_law_751 rfl rfl ?_
  refine x_iconst (pc := 752) (v := 1) dL_law_752 (by decide) ?_
  refine x_iadd (pc := 753) dL_law_753 ?_
  refine x_sld (pc := 754) dL_law_754 (law_in (j := 1) hk hL ⟨by decide, rfl⟩) ?_
  refine x_aload_n (pc := 755) (i := 0) dL_law_755 rfl rfl ?_
  refine x_iload_n (pc := 756) (i := 3) dL_law_756 rfl rfl ?_
  refine x_iconst (pc := 757) (v := 2) dL_law_757 (by decide) ?_
  refine x_iadd (pc := 758) dL_law_758 ?_
  refine x_sld (pc := 759) dL_law_759 (law_in (j := 2) hk hL ⟨by decide, rfl⟩) ?_
  obtain ⟨_, hw1⟩ := mK_obj hk1 hw44
  refine x_virt (M := kL) (pc := 760) (a := 44) (As := [.int (xs (nI k + 1).toNatClampNeg), .int (xs (nI k + 2).toNatClampNeg)]) lL_90 dL_law_760 (by decide) hw1 rfl (Nat.le_of_ble_eq_true rfl) rfl hr ?_
  rintro _ w2 ⟨rfl, hI2⟩
  refine x_pushL ?_
  refine x_lcmp (pc := 763) dL_law_763 ?_
  refine x_if_eq (pc := 764) (tgt := 1113) dL_law_764 (by decide) (fun _ => ?_) (fun h => absurd (lg_cmp_self y) h)
  exact kk w2 hI2
theorem law_sheet {b L : Nat} {xs : Nat → Int32} {w : mW} {k : Nat} (hL : L ≤ 3072) (hI : Inv w) (hk : k + 6 ≤ L) (kk : ∀ w2, Inv w2 → mJ (xL b L xs) 21 kL lQ 1113 [.ref 100, .ref 0, .ref 44, .int (nI k)] [] w2) : mJ (xL b L xs) 21 kL lQ 769 [.ref 100, .ref 0, .ref 44, .int (nI k)] [] w := by
  obtain ⟨_, hw0, -⟩ := hI.1.obj (a := 0) rfl
  obtain ⟨_, hw44, -⟩ := hI.1.obj (a := 44) rfl
  refine x_aload_n (pc := 769) (i := 1) dL_law_769 rfl rfl ?_
  refine x_aload_n (pc := 770) (i := 0) dL_law_770 rfl rfl ?_
  refine x_iload_n (pc := 771) (i := 3) dL_law_771 rfl rfl ?_
  refine x_iconst (pc := 772) (v := 1) dL_law_772 (by decide) ?_
  refine x_iadd (pc := 773) dL_law_773 ?_
  refine x_sld (pc := 774) dL_law_774 (law_in (j := 1) hk hL ⟨by decide, rfl⟩) ?_
  refine x_aload_n (pc := 775) (i := 0) dL_law_775 rfl rfl ?_
  refine x_iload_n (pc := 776) (i := 3) dL_law_776 rfl rfl ?_
  refine x_iconst (pc := 777) (v := 2) dL_law_777 (by decide) ?_
  refine x_iadd (pc := 778) dL_law_778 ?_
  refine x_sld (pc := 779) dL_law_779 (law_in (j := 2) hk hL ⟨by decide, rfl⟩) ?_
  refine x_aload_n (pc := 780) (i := 0) dL_law_780 rfl rfl ?_
  refine x_iload_n (pc := 781) (i := 3) dL_law_781 rfl rfl ?_
  refine x_iconst (pc := 782) (v := 3) dL_law_782 (by decide) ?_
  refine x_iadd (pc := 783) dL_law_783 ?_
  refine x_sld (pc := 784) dL_law_784 (law_in (j := 3) hk hL ⟨by decide, rfl⟩) ?_
  refine x_virtT (M := kL) (pc := 785) (a := 0) (As := [.int (xs (nI k + 1).toNatClampNeg), .int (xs (nI k + 2).toNatClampNeg), .int (xs (nI k + 3).toNatClampNeg)]) lL_91 dL_law_785 (by decide) hw0 rfl (Nat.le_of_ble_eq_true rfl) rfl ((both_sheet (w := w) hI _ _ _) 0) ?_
  intro r w1 ht hk1 hr
  obtain ⟨y, rfl⟩ := mTy_int (M := kX7_sheet) rfl ht
  refine x_pushI ?_
  refine x_aload_n (pc := 788) (i := 2) dL_law_788 rfl rfl ?_
  refine x_aload_n (pc := 789) (i := 0) dL_law_789 rfl rfl ?_
  refine x_iload_n (pc := 790) (i := 3) dL_law_790 rfl rfl ?_
  refine x_iconst (pc := 791) (v := 1) dL_law_791 (by decide) ?_
  refine x_iadd (pc := 792) dL_law_792 ?_
  refine x_sld (pc := 793) dL_law_793 (law_in (j := 1) hk hL ⟨by decide, rfl⟩) ?_
  refine x_aload_n (pc := 794) (i := 0) dL_law_794 rfl rfl ?_
  refine x_iload_n (pc := 795) (i := 3) dL_law_795 rfl rfl ?_
  refine x_iconst (pc := 796) (v := 2) dL_law_796 (by decide) ?_
  refine x_iadd (pc := 797) dL_law_797 ?_
  refine x_sld (pc := 798) dL_law_798 (law_in (j := 2) hk hL ⟨by decide, rfl⟩) ?_
  refine x_aload_n (pc := 799) (i := 0) dL_law_799 rfl rfl ?_
  refine x_iload_n (pc := 800) (i := 3) dL_law_800 rfl rfl ?_
  refine x_iconst (pc := 801) (v := 3) dL_law_801 (by decide) ?_
  refine x_iadd (pc := 802) dL_law_802 ?_
  refine x_sld (pc := 803) dL_law_803 (law_in (j := 3) hk hL ⟨by decide, rfl⟩) ?_
  obtain ⟨_, hw1⟩ := mK_obj hk1 hw44
  refine x_virt (M := kL) (pc := 804) (a := 44) (As := [.int (xs (nI k + 1).toNatClampNeg), .int (xs (nI k + 2).toNatClampNeg), .int (xs (nI k + 3).toNatClampNeg)]) lL_94 dL_law_804 (by decide) hw1 rfl (Nat.le_of_ble_eq_true rfl) rfl hr ?_
  rintro _ w2 ⟨rfl, hI2⟩
  refine x_pushI ?_
  refine x_icmp_eq (pc := 807) (tgt := 1113) dL_law_807 (by decide) (fun _ => ?_) (fun h => absurd rfl h)
  exact kk w2 hI2
theorem law_lose {b L : Nat} {xs : Nat → Int32} {w : mW} {k : Nat} (hL : L ≤ 3072) (hI : Inv w) (hk : k + 6 ≤ L) (kk : ∀ w2, Inv w2 → mJ (xL b L xs) 21 kL lQ 1113 [.ref 100, .ref 0, .ref 44, .int (nI k)] [] w2) : mJ (xL b L xs) 21 kL lQ 812 [.ref 100, .ref 0, .ref 44, .int (nI k)] [] w := by
  obtain ⟨_, hw0, -⟩ := hI.1.obj (a := 0) rfl
  obtain ⟨_, hw44, -⟩ := hI.1.obj (a := 44) rfl
  refine x_aload_n (pc := 812) (i := 1) dL_law_812 rfl rfl ?_
  refine x_aload_n (pc := 813) (i := 0) dL_law_813 rfl rfl ?_
  refine x_iload_n (pc := 814) (i := 3) dL_law_814 rfl rfl ?_
  refine x_iconst (pc := 815) (v := 1) dL_law_815 (by decide) ?_
  refine x_iadd (pc := 816) dL_law_816 ?_
  refine x_sld (pc := 817) dL_law_817 (law_in (j := 1) hk hL ⟨by decide, rfl⟩) ?_
  refine x_virtT (M := kL) (pc := 818) (a := 0) (As := [.int (xs (nI k + 1).toNatClampNeg)]) lL_95 dL_law_818 (by decide) hw0 rfl (Nat.le_of_ble_eq_true rfl) rfl ((both_lose (w := w) hI _) 0) ?_
  intro r w1 ht hk1 hr
  obtain ⟨y, rfl⟩ := mTy_int (M := kX7_lose) rfl ht
  refine x_pushI ?_
  refine x_aload_n (pc := 821) (i := 2) dL_law_821 rfl rfl ?_
  refine x_aload_n (pc := 822) (i := 0) dL_law_822 rfl rfl ?_
  refine x_iload_n (pc := 823) (i := 3) dL_law_823 rfl rfl ?_
  refine x_iconst (pc := 824) (v := 1) dL_law_824 (by decide) ?_
  refine x_iadd (pc := 825) dL_law_825 ?_
  refine x_sld (pc := 826) dL_law_826 (law_in (j := 1) hk hL ⟨by decide, rfl⟩) ?_
  obtain ⟨_, hw1⟩ := mK_obj hk1 hw44
  refine x_virt (M := kL) (pc := 827) (a := 44) (As := [.int (xs (nI k + 1).toNatClampNeg)]) lL_98 dL_law_827 (by decide) hw1 rfl (Nat.le_of_ble_eq_true rfl) rfl hr ?_
  rintro _ w2 ⟨rfl, hI2⟩
  refine x_pushI ?_
  refine x_icmp_eq (pc := 830) (tgt := 1113) dL_law_830 (by decide) (fun _ => ?_) (fun h => absurd rfl h)
  exact kk w2 hI2
theorem law_put {b L : Nat} {xs : Nat → Int32} {w : mW} {k : Nat} (hL : L ≤ 3072) (hI : Inv w) (hk : k + 6 ≤ L) (kk : ∀ w2, Inv w2 → mJ (xL b L xs) 21 kL lQ 1113 [.ref 100, .ref 0, .ref 44, .int (nI k)] [] w2) : mJ (xL b L xs) 21 kL lQ 835 [.ref 100, .ref 0, .ref 44, .int (nI k)] [] w := by
  obtain ⟨_, hw0, -⟩ := hI.1.obj (a := 0) rfl
  obtain ⟨_, hw44, -⟩ := hI.1.obj (a := 44) rfl
  refine x_aload_n (pc := 835) (i := 1) dL_law_835 rfl rfl ?_
  refine x_aload_n (pc := 836) (i := 0) dL_law_836 rfl rfl ?_
  refine x_iload_n (pc := 837) (i := 3) dL_law_837 rfl rfl ?_
  refine x_iconst (pc := 838) (v := 1) dL_law_838 (by decide) ?_
  refine x_iadd (pc := 839) dL_law_839 ?_
  refine x_sld (pc := 840) dL_law_840 (law_in (j := 1) hk hL ⟨by decide, rfl⟩) ?_
  refine x_aload_n (pc := 841) (i := 0) dL_law_841 rfl rfl ?_
  refine x_iload_n (pc := 842) (i := 3) dL_law_842 rfl rfl ?_
  refine x_iconst (pc := 843) (v := 2) dL_law_843 (by decide) ?_
  refine x_iadd (pc := 844) dL_law_844 ?_
  refine x_sld (pc := 845) dL_law_845 (law_in (j := 2) hk hL ⟨by decide, rfl⟩) ?_
  refine x_aload_n (pc := 846) (i := 0) dL_law_846 rfl rfl ?_
  refine x_iload_n (pc := 847) (i := 3) dL_law_847 rfl rfl ?_
  refine x_iconst (pc := 848) (v := 3) dL_law_848 (by decide) ?_
  refine x_iadd (pc := 849) dL_law_849 ?_
  refine x_sld (pc := 850) dL_law_850 (law_in (j := 3) hk hL ⟨by decide, rfl⟩) ?_
  refine x_virtT (M := kL) (pc := 851) (a := 0) (As := [.int (xs (nI k + 1).toNatClampNeg), .int (xs (nI k + 2).toNatClampNeg), .int (xs (nI k + 3).toNatClampNeg)]) lL_99 dL_law_851 (by decide) hw0 rfl (Nat.le_of_ble_eq_true rfl) rfl ((both_put (w := w) hI _ _ _) 0) ?_
  intro r w1 ht hk1 hr
  obtain ⟨y, rfl⟩ := mTy_int (M := kX7_put) rfl ht
  refine x_pushI ?_
  refine x_aload_n (pc := 854) (i := 2) dL_law_854 rfl rfl ?_
  refine x_aload_n (pc := 855) (i := 0) dL_law_855 rfl rfl ?_
  refine x_iload_n (pc := 856) (i := 3) dL_law_856 rfl rfl ?_
  refine x_iconst (pc := 857) (v := 1) dL_law_857 (by decide) ?_
  refine x_iadd (pc := 858) dL_law_858 ?_
  refine x_sld (pc := 859) dL_law_859 (law_in (j := 1) hk hL ⟨by decide, rfl⟩) ?_
  refine x_aload_n (pc := 860) (i := 0) dL_law_860 rfl rfl ?_
  refine x_iload_n (pc := 861) (i := 3) dL_law_861 rfl rfl ?_
  refine x_iconst (pc := 862) (v := 2) dL_law_862 (by decide) ?_
  refine x_iadd (pc := 863) dL_law_863 ?_
  refine x_sld (pc := 864) dL_law_864 (law_in (j := 2) hk hL ⟨by decide, rfl⟩) ?_
  refine x_aload_n (pc := 865) (i := 0) dL_law_865 rfl rfl ?_
  refine x_iload_n (pc := 866) (i := 3) dL_law_866 rfl rfl ?_
  refine x_iconst (pc := 867) (v := 3) dL_law_867 (by decide) ?_
  refine x_iadd (pc := 868) dL_law_868 ?_
  refine x_sld (pc := 869) dL_law_869 (law_in (j := 3) hk hL ⟨by decide, rfl⟩) ?_
  obtain ⟨_, hw1⟩ := mK_obj hk1 hw44
  refine x_virt (M := kL) (pc := 870) (a := 44) (As := [.int (xs (nI k + 1).toNatClampNeg), .int (xs (nI k + 2).toNatClampNeg), .int (xs (nI k + 3).toNatClampNeg)]) lL_102 dL_law_870 (by decide) hw1 rfl (Nat.le_of_ble_eq_true rfl) rfl hr ?_
  rintro _ w2 ⟨rfl, hI2⟩
  refine x_pushI ?_
  refine x_icmp_eq (pc := 873) (tgt := 1113) dL_law_873 (by decide) (fun _ => ?_) (fun h => absurd rfl h)
  exact kk w2 hI2
theorem law_cell {b L : Nat} {xs : Nat → Int32} {w : mW} {k : Nat} (hL : L ≤ 3072) (hI : Inv w) (hk : k + 6 ≤ L) (kk : ∀ w2, Inv w2 → mJ (xL b L xs) 21 kL lQ 1113 [.ref 100, .ref 0, .ref 44, .int (nI k)] [] w2) : mJ (xL b L xs) 21 kL lQ 878 [.ref 100, .ref 0, .ref 44, .int (nI k)] [] w := by
  obtain ⟨_, hw0, -⟩ := hI.1.obj (a := 0) rfl
  obtain ⟨_, hw44, -⟩ := hI.1.obj (a := 44) rfl
  refine x_aload_n (pc := 878) (i := 1) dL_law_878 rfl rfl ?_
  refine x_aload_n (pc := 879) (i := 0) dL_law_879 rfl rfl ?_
  refine x_iload_n (pc := 880) (i := 3) dL_law_880 rfl rfl ?_
  refine x_iconst (pc := 881) (v := 1) dL_law_881 (by decide) ?_
  refine x_iadd (pc := 882) dL_law_882 ?_
  refine x_sld (pc := 883) dL_law_883 (law_in (j := 1) hk hL ⟨by decide, rfl⟩) ?_
  refine x_aload_n (pc := 884) (i := 0) dL_law_884 rfl rfl ?_
  refine x_iload_n (pc := 885) (i := 3) dL_law_885 rfl rfl ?_
  refine x_iconst (pc := 886) (v := 2) dL_law_886 (by decide) ?_
  refine x_iadd (pc := 887) dL_law_887 ?_
  refine x_sld (pc := 888) dL_law_888 (law_in (j := 2) hk hL ⟨by decide, rfl⟩) ?_
  refine x_aload_n (pc := 889) (i := 0) dL_law_889 rfl rfl ?_
  refine x_iload_n (pc := 890) (i := 3) dL_law_890 rfl rfl ?_
  refine x_iconst (pc := 891) (v := 3) dL_law_891 (by decide) ?_
  refine x_iadd (pc := 892) dL_law_892 ?_
  refine x_sld (pc := 893) dL_law_893 (law_in (j := 3) hk hL ⟨by decide, rfl⟩) ?_
  refine x_virtT (M := kL) (pc := 894) (a := 0) (As := [.int (xs (nI k + 1).toNatClampNeg), .int (xs (nI k + 2).toNatClampNeg), .int (xs (nI k + 3).toNatClampNeg)]) lL_103 dL_law_894 (by decide) hw0 rfl (Nat.le_of_ble_eq_true rfl) rfl ((both_cell (w := w) hI _ _ _) 0) ?_
  intro r w1 ht hk1 hr
  obtain ⟨⟨y, rfl⟩, hr⟩ := hr
  refine x_pushL ?_
  refine x_aload_n (pc := 897) (i := 2) dL_law_897 rfl rfl ?_
  refine x_aload_n (pc := 898) (i := 0) dL_law_898 rfl rfl ?_
  refine x_iload_n (pc := 899) (i := 3) dL_law_899 rfl rfl ?_
  refine x_iconst (pc := 900) (v := 1) dL_law_900 (by decide) ?_
  refine x_iadd (pc := 901) dL_law_901 ?_
  refine x_sld (pc := 902) dL_law_902 (law_in (j := 1) hk hL ⟨by decide, rfl⟩) ?_
  refine x_aload_n (pc := 903) (i := 0) dL_law_903 rfl rfl ?_
  refine x_iload_n (pc := 904) (i := 3) dL_law_904 rfl rfl ?_
  refine x_iconst (pc := 905) (v := 2) dL_law_905 (by decide) ?_
  refine x_iadd (pc := 906) dL_law_906 ?_
  refine x_sld (pc := 907) dL_law_907 (law_in (j := 2) hk hL ⟨by decide, rfl⟩) ?_
  refine x_aload_n (pc := 908) (i := 0) dL_law_908 rfl rfl ?_
  refine x_iload_n (pc := 909) (i := 3) dL_law_909 rfl rfl ?_
  refine x_iconst (pc := 910) (v := 3) dL_law_910 (by decide) ?_
  refine x_iadd (pc := 911) dL_law_911 ?_
  refine x_sld (pc := 912) dL_law_912 (law_in (j := 3) hk hL ⟨by decide, rfl⟩) ?_
  obtain ⟨_, hw1⟩ := mK_obj hk1 hw44
  refine x_virt (M := kL) (pc := 913) (a := 44) (As := [.int (xs (nI k + 1).toNatClampNeg), .int (xs (nI k + 2).toNatClampNeg), .int (xs (nI k + 3).toNatClampNeg)]) lL_107 dL_law_913 (by decide) hw1 rfl (Nat.le_of_ble_eq_true rfl) rfl hr ?_
  rintro _ w2 ⟨rfl, hI2⟩
  refine x_pushL ?_
  refine x_lcmp (pc := 916) dL_law_916 ?_
  refine x_if_eq (pc := 917) (tgt := 1113) dL_law_917 (by decide) (fun _ => ?_) (fun h => absurd (lg_cmp_self y) h)
  exact kk w2 hI2
theorem law_copy {b L : Nat} {xs : Nat → Int32} {w : mW} {k : Nat} (hL : L ≤ 3072) (hI : Inv w) (hk : k + 6 ≤ L) (kk : ∀ w2, Inv w2 → mJ (xL b L xs) 21 kL lQ 1113 [.ref 100, .ref 0, .ref 44, .int (nI k)] [] w2) : mJ (xL b L xs) 21 kL lQ 922 [.ref 100, .ref 0, .ref 44, .int (nI k)] [] w := by
  obtain ⟨_, hw0, -⟩ := hI.1.obj (a := 0) rfl
  obtain ⟨_, hw44, -⟩ := hI.1.obj (a := 44) rfl
  refine x_aload_n (pc := 922) (i := 1) dL_law_922 rfl rfl ?_
  refine x_aload_n (pc := 923) (i := 0) dL_law_923 rfl rfl ?_
  refine x_iload_n (pc := 924) (i := 3) dL_law_924 rfl rfl ?_
  refine x_iconst (pc := 925) (v := 1) dL_law_925 (by decide) ?_
  refine x_iadd (pc := 926) dL_law_926 ?_
  refine x_sld (pc := 927) dL_law_927 (law_in (j := 1) hk hL ⟨by decide, rfl⟩) ?_
  refine x_aload_n (pc := 928) (i := 0) dL_law_928 rfl rfl ?_
  refine x_iload_n (pc := 929) (i := 3) dL_law_929 rfl rfl ?_
  refine x_iconst (pc := 930) (v := 2) dL_law_930 (by decide) ?_
  refine x_iadd (pc := 931) dL_law_931 ?_
  refine x_sld (pc := 932) dL_law_932 (law_in (j := 2) hk hL ⟨by decide, rfl⟩) ?_
  refine x_aload_n (pc := 933) (i := 0) dL_law_933 rfl rfl ?_
  refine x_iload_n (pc := 934) (i := 3) dL_law_934 rfl rfl ?_
  refine x_iconst (pc := 935) (v := 3) dL_law_935 (by decide) ?_
  refine x_iadd (pc := 936) dL_law_936 ?_
  refine x_sld (pc := 937) dL_law_937 (law_in (j := 3) hk hL ⟨by decide, rfl⟩) ?_
  refine x_aload_n (pc := 938) (i := 0) dL_law_938 rfl rfl ?_
  refine x_iload_n (pc := 939) (i := 3) dL_law_939 rfl rfl ?_
  refine x_iconst (pc := 940) (v := 4) dL_law_940 (by decide) ?_
  refine x_iadd (pc := 941) dL_law_941 ?_
  refine x_sld (pc := 942) dL_law_942 (law_in (j := 4) hk hL ⟨by decide, rfl⟩) ?_
  refine x_aload_n (pc := 943) (i := 0) dL_law_943 rfl rfl ?_
  refine x_iload_n (pc := 944) (i := 3) dL_law_944 rfl rfl ?_
  refine x_iconst (pc := 945) (v := 5) dL_law_945 (by decide) ?_
  refine x_iadd (pc := 946) dL_law_946 ?_
  refine x_sld (pc := 947) dL_law_947 (law_in (j := 5) hk hL ⟨by decide, rfl⟩) ?_
  refine x_virtT (M := kL) (pc := 948) (a := 0) (As := [.int (xs (nI k + 1).toNatClampNeg), .int (xs (nI k + 2).toNatClampNeg), .int (xs (nI k + 3).toNatClampNeg), .int (xs (nI k + 4).toNatClampNeg), .int (xs (nI k + 5).toNatClampNeg)]) lL_108 dL_law_948 (by decide) hw0 rfl (Nat.le_of_ble_eq_true rfl) rfl ((both_copy (w := w) hI _ _ _ _ _) 0) ?_
  intro r w1 ht hk1 hr
  obtain ⟨y, rfl⟩ := mTy_int (M := kX7_copy) rfl ht
  refine x_pushI ?_
  refine x_aload_n (pc := 951) (i := 2) dL_law_951 rfl rfl ?_
  refine x_aload_n (pc := 952) (i := 0) dL_law_952 rfl rfl ?_
  refine x_iload_n (pc := 953) (i := 3) dL_law_953 rfl rfl ?_
  refine x_iconst (pc := 954) (v := 1) dL_law_954 (by decide) ?_
  refine x_iadd (pc := 955) dL_law_955 ?_
  refine x_sld (pc := 956) dL_law_956 (law_in (j := 1) hk hL ⟨by decide, rfl⟩) ?_
  refine x_aload_n (pc := 957) (i := 0) dL_law_957 rfl rfl ?_
  refine x_iload_n (pc := 958) (i := 3) dL_law_958 rfl rfl ?_
  refine x_iconst (pc := 959) (v := 2) dL_law_959 (by decide) ?_
  refine x_iadd (pc := 960) dL_law_960 ?_
  refine x_sld (pc := 961) dL_law_961 (law_in (j := 2) hk hL ⟨by decide, rfl⟩) ?_
  refine x_aload_n (pc := 962) (i := 0) dL_law_962 rfl rfl ?_
  refine x_iload_n (pc := 963) (i := 3) dL_law_963 rfl rfl ?_
  refine x_iconst (pc := 964) (v := 3) dL_law_964 (by decide) ?_
  refine x_iadd (pc := 965) dL_law_965 ?_
  refine x_sld (pc := 966) dL_law_966 (law_in (j := 3) hk hL ⟨by decide, rfl⟩) ?_
  refine x_aload_n (pc := 967) (i := 0) dL_law_967 rfl rfl ?_
  refine x_iload_n (pc := 968) (i := 3) dL_law_968 rfl rfl ?_
  refine x_iconst (pc := 969) (v := 4) dL_law_969 (by decide) ?_
  refine x_iadd (pc := 970) dL_law_970 ?_
  refine x_sld (pc := 971) dL_law_971 (law_in (j := 4) hk hL ⟨by decide, rfl⟩) ?_
  refine x_aload_n (pc := 972) (i := 0) dL_law_972 rfl rfl ?_
  refine x_iload_n (pc := 973) (i := 3) dL_law_973 rfl rfl ?_
  refine x_iconst (pc := 974) (v := 5) dL_law_974 (by decide) ?_
  refine x_iadd (pc := 975) dL_law_975 ?_
  refine x_sld (pc := 976) dL_law_976 (law_in (j := 5) hk hL ⟨by decide, rfl⟩) ?_
  obtain ⟨_, hw1⟩ := mK_obj hk1 hw44
  refine x_virt (M := kL) (pc := 977) (a := 44) (As := [.int (xs (nI k + 1).toNatClampNeg), .int (xs (nI k + 2).toNatClampNeg), .int (xs (nI k + 3).toNatClampNeg), .int (xs (nI k + 4).toNatClampNeg), .int (xs (nI k + 5).toNatClampNeg)]) lL_111 dL_law_977 (by decide) hw1 rfl (Nat.le_of_ble_eq_true rfl) rfl hr ?_
  rintro _ w2 ⟨rfl, hI2⟩
  refine x_pushI ?_
  refine x_icmp_eq (pc := 980) (tgt := 1113) dL_law_980 (by decide) (fun _ => ?_) (fun h => absurd rfl h)
  exact kk w2 hI2
theorem law_tell {b L : Nat} {xs : Nat → Int32} {w : mW} {k : Nat} (hL : L ≤ 3072) (hI : Inv w) (hk : k + 6 ≤ L) (kk : ∀ w2, Inv w2 → mJ (xL b L xs) 21 kL lQ 1113 [.ref 100, .ref 0, .ref 44, .int (nI k)] [] w2) : mJ (xL b L xs) 21 kL lQ 985 [.ref 100, .ref 0, .ref 44, .int (nI k)] [] w := by
  obtain ⟨_, hw0, -⟩ := hI.1.obj (a := 0) rfl
  obtain ⟨_, hw44, -⟩ := hI.1.obj (a := 44) rfl
  refine x_aload_n (pc := 985) (i := 1) dL_law_985 rfl rfl ?_
  refine x_aload_n (pc := 986) (i := 0) dL_law_986 rfl rfl ?_
  refine x_iload_n (pc := 987) (i := 3) dL_law_987 rfl rfl ?_
  refine x_iconst (pc := 988) (v := 1) dL_law_988 (by decide) ?_
  refine x_iadd (pc := 989) dL_law_989 ?_
  refine x_sld (pc := 990) dL_law_990 (law_in (j := 1) hk hL ⟨by decide, rfl⟩) ?_
  refine x_virtT (M := kL) (pc := 991) (a := 0) (As := [.int (xs (nI k + 1).toNatClampNeg)]) lL_112 dL_law_991 (by decide) hw0 rfl (Nat.le_of_ble_eq_true rfl) rfl ((both_tell (w := w) hI _) 0) ?_
  intro r w1 ht hk1 hr
  obtain ⟨y, rfl⟩ := mTy_int (M := kX7_tell) rfl ht
  refine x_pushI ?_
  refine x_aload_n (pc := 994) (i := 2) dL_law_994 rfl rfl ?_
  refine x_aload_n (pc := 995) (i := 0) dL_law_995 rfl rfl ?_
  refine x_iload_n (pc := 996) (i := 3) dL_law_996 rfl rfl ?_
  refine x_iconst (pc := 997) (v := 1) dL_law_997 (by decide) ?_
  refine x_iadd (pc := 998) dL_law_998 ?_
  refine x_sld (pc := 999) dL_law_999 (law_in (j := 1) hk hL ⟨by decide, rfl⟩) ?_
  obtain ⟨_, hw1⟩ := mK_obj hk1 hw44
  refine x_virt (M := kL) (pc := 1000) (a := 44) (As := [.int (xs (nI k + 1).toNatClampNeg)]) lL_115 dL_law_1000 (by decide) hw1 rfl (Nat.le_of_ble_eq_true rfl) rfl hr ?_
  rintro _ w2 ⟨rfl, hI2⟩
  refine x_pushI ?_
  refine x_icmp_eq (pc := 1003) (tgt := 1113) dL_law_1003 (by decide) (fun _ => ?_) (fun h => absurd rfl h)
  exact kk w2 hI2
theorem law_haunt {b L : Nat} {xs : Nat → Int32} {w : mW} {k : Nat} (hL : L ≤ 3072) (hI : Inv w) (hk : k + 6 ≤ L) (kk : ∀ w2, Inv w2 → mJ (xL b L xs) 21 kL lQ 1113 [.ref 100, .ref 0, .ref 44, .int (nI k)] [] w2) : mJ (xL b L xs) 21 kL lQ 1008 [.ref 100, .ref 0, .ref 44, .int (nI k)] [] w := by
  obtain ⟨_, hw0, -⟩ := hI.1.obj (a := 0) rfl
  obtain ⟨_, hw44, -⟩ := hI.1.obj (a := 44) rfl
  refine x_aload_n (pc := 1008) (i := 1) dL_law_1008 rfl rfl ?_
  refine x_aload_n (pc := 1009) (i := 0) dL_law_1009 rfl rfl ?_
  refine x_iload_n (pc := 1010) (i := 3) dL_law_1010 rfl rfl ?_
  refine x_iconst (pc := 1011) (v := 1) dL_law_1011 (by decide) ?_
  refine x_iadd (pc := 1012) dL_law_1012 ?_
  refine x_sld (pc := 1013) dL_law_1013 (law_in (j := 1) hk hL ⟨by decide, rfl⟩) ?_
  refine x_virtT (M := kL) (pc := 1014) (a := 0) (As := [.int (xs (nI k + 1).toNatClampNeg)]) lL_116 dL_law_1014 (by decide) hw0 rfl (Nat.le_of_ble_eq_true rfl) rfl ((both_haunt (w := w) hI _) 0) ?_
  intro r w1 ht hk1 hr
  obtain ⟨y, rfl⟩ := mTy_int (M := kX7_haunt) rfl ht
  refine x_pushI ?_
  refine x_aload_n (pc := 1017) (i := 2) dL_law_1017 rfl rfl ?_
  refine x_aload_n (pc := 1018) (i := 0) dL_law_1018 rfl rfl ?_
  refine x_iload_n (pc := 1019) (i := 3) dL_law_1019 rfl rfl ?_
  refine x_iconst (pc := 1020) (v := 1) dL_law_1020 (by decide) ?_
  refine x_iadd (pc := 1021) dL_law_1021 ?_
  refine x_sld (pc := 1022) dL_law_1022 (law_in (j := 1) hk hL ⟨by decide, rfl⟩) ?_
  obtain ⟨_, hw1⟩ := mK_obj hk1 hw44
  refine x_virt (M := kL) (pc := 1023) (a := 44) (As := [.int (xs (nI k + 1).toNatClampNeg)]) lL_119 dL_law_1023 (by decide) hw1 rfl (Nat.le_of_ble_eq_true rfl) rfl hr ?_
  rintro _ w2 ⟨rfl, hI2⟩
  refine x_pushI ?_
  refine x_icmp_eq (pc := 1026) (tgt := 1113) dL_law_1026 (by decide) (fun _ => ?_) (fun h => absurd rfl h)
  exact kk w2 hI2
theorem law_as {b L : Nat} {xs : Nat → Int32} {w : mW} {k : Nat} (hL : L ≤ 3072) (hI : Inv w) (hk : k + 6 ≤ L) (kk : ∀ w2, Inv w2 → mJ (xL b L xs) 21 kL lQ 1113 [.ref 100, .ref 0, .ref 44, .int (nI k)] [] w2) : mJ (xL b L xs) 21 kL lQ 1031 [.ref 100, .ref 0, .ref 44, .int (nI k)] [] w := by
  obtain ⟨_, hw0, -⟩ := hI.1.obj (a := 0) rfl
  obtain ⟨_, hw44, -⟩ := hI.1.obj (a := 44) rfl
  refine x_aload_n (pc := 1031) (i := 1) dL_law_1031 rfl rfl ?_
  refine x_aload_n (pc := 1032) (i := 0) dL_law_1032 rfl rfl ?_
  refine x_iload_n (pc := 1033) (i := 3) dL_law_1033 rfl rfl ?_
  refine x_iconst (pc := 1034) (v := 1) dL_law_1034 (by decide) ?_
  refine x_iadd (pc := 1035) dL_law_1035 ?_
  refine x_sld (pc := 1036) dL_law_1036 (law_in (j := 1) hk hL ⟨by decide, rfl⟩) ?_
  refine x_aload_n (pc := 1037) (i := 0) dL_law_1037 rfl rfl ?_
  refine x_iload_n (pc := 1038) (i := 3) dL_law_1038 rfl rfl ?_
  refine x_iconst (pc := 1039) (v := 2) dL_law_1039 (by decide) ?_
  refine x_iadd (pc := 1040) dL_law_1040 ?_
  refine x_sld (pc := 1041) dL_law_1041 (law_in (j := 2) hk hL ⟨by decide, rfl⟩) ?_
  refine x_virtT (M := kL) (pc := 1042) (a := 0) (As := [.int (xs (nI k + 1).toNatClampNeg), .int (xs (nI k + 2).toNatClampNeg)]) lL_120 dL_law_1042 (by decide) hw0 rfl (Nat.le_of_ble_eq_true rfl) rfl ((both_as (w := w) hI _ _) 0) ?_
  intro r w1 ht hk1 hr
  obtain ⟨y, rfl⟩ := mTy_int (M := kX7_as) rfl ht
  refine x_pushI ?_
  refine x_aload_n (pc := 1045) (i := 2) dL_law_1045 rfl rfl ?_
  refine x_aload_n (pc := 1046) (i := 0) dL_law_1046 rfl rfl ?_
  refine x_iload_n (pc := 1047) (i := 3) dL_law_1047 rfl rfl ?_
  refine x_iconst (pc := 1048) (v := 1) dL_law_1048 (by decide) ?_
  refine x_iadd (pc := 1049) dL_law_1049 ?_
  refine x_sld (pc := 1050) dL_law_1050 (law_in (j := 1) hk hL ⟨by decide, rfl⟩) ?_
  refine x_aload_n (pc := 1051) (i := 0) dL_law_1051 rfl rfl ?_
  refine x_iload_n (pc := 1052) (i := 3) dL_law_1052 rfl rfl ?_
  refine x_iconst (pc := 1053) (v := 2) dL_law_1053 (by decide) ?_
  refine x_iadd (pc := 1054) dL_law_1054 ?_
  refine x_sld (pc := 1055) dL_law_1055 (law_in (j := 2) hk hL ⟨by decide, rfl⟩) ?_
  obtain ⟨_, hw1⟩ := mK_obj hk1 hw44
  refine x_virt (M := kL) (pc := 1056) (a := 44) (As := [.int (xs (nI k + 1).toNatClampNeg), .int (xs (nI k + 2).toNatClampNeg)]) lL_123 dL_law_1056 (by decide) hw1 rfl (Nat.le_of_ble_eq_true rfl) rfl hr ?_
  rintro _ w2 ⟨rfl, hI2⟩
  refine x_pushI ?_
  refine x_icmp_eq (pc := 1059) (tgt := 1113) dL_law_1059 (by decide) (fun _ => ?_) (fun h => absurd rfl h)
  exact kk w2 hI2
theorem law_trace {b L : Nat} {xs : Nat → Int32} {w : mW} {k : Nat} (hL : L ≤ 3072) (hI : Inv w) (hk : k + 6 ≤ L) (kk : ∀ w2, Inv w2 → mJ (xL b L xs) 21 kL lQ 1113 [.ref 100, .ref 0, .ref 44, .int (nI k)] [] w2) : mJ (xL b L xs) 21 kL lQ 1064 [.ref 100, .ref 0, .ref 44, .int (nI k)] [] w := by
  obtain ⟨_, hw0, -⟩ := hI.1.obj (a := 0) rfl
  obtain ⟨_, hw44, -⟩ := hI.1.obj (a := 44) rfl
  refine x_aload_n (pc := 1064) (i := 1) dL_law_1064 rfl rfl ?_
  refine x_virtT (M := kL) (pc := 1065) (a := 0) (As := []) lL_124 dL_law_1065 (by decide) hw0 rfl (Nat.le_of_ble_eq_true rfl) rfl ((both_trace (w := w) hI ) 0) ?_
  intro r w1 ht hk1 hr
  obtain ⟨y, rfl⟩ := mTy_int (M := kX7_trace) rfl ht
  refine x_pushI ?_
  refine x_aload_n (pc := 1068) (i := 2) dL_law_1068 rfl rfl ?_
  obtain ⟨_, hw1⟩ := mK_obj hk1 hw44
  refine x_virt (M := kL) (pc := 1069) (a := 44) (As := []) lL_128 dL_law_1069 (by decide) hw1 rfl (Nat.le_of_ble_eq_true rfl) rfl hr ?_
  rintro _ w2 ⟨rfl, hI2⟩
  refine x_pushI ?_
  refine x_icmp_eq (pc := 1072) (tgt := 1113) dL_law_1072 (by decide) (fun _ => ?_) (fun h => absurd rfl h)
  exact kk w2 hI2
theorem law_fault {b L : Nat} {xs : Nat → Int32} {w : mW} {k : Nat} (hL : L ≤ 3072) (hI : Inv w) (hk : k + 6 ≤ L) (kk : ∀ w2, Inv w2 → mJ (xL b L xs) 21 kL lQ 1113 [.ref 100, .ref 0, .ref 44, .int (nI k)] [] w2) : mJ (xL b L xs) 21 kL lQ 1077 [.ref 100, .ref 0, .ref 44, .int (nI k)] [] w := by
  obtain ⟨_, hw0, -⟩ := hI.1.obj (a := 0) rfl
  obtain ⟨_, hw44, -⟩ := hI.1.obj (a := 44) rfl
  refine x_aload_n (pc := 1077) (i := 1) dL_law_1077 rfl rfl ?_
  refine x_virtT (M := kL) (pc := 1078) (a := 0) (As := []) lL_129 dL_law_1078 (by decide) hw0 rfl (Nat.le_of_ble_eq_true rfl) rfl ((both_fault (w := w) hI ) 0) ?_
  intro r w1 ht hk1 hr
  obtain ⟨y, rfl⟩ := mTy_int (M := kX7_fault) rfl ht
  refine x_pushI ?_
  refine x_aload_n (pc := 1081) (i := 2) dL_law_1081 rfl rfl ?_
  obtain ⟨_, hw1⟩ := mK_obj hk1 hw44
  refine x_virt (M := kL) (pc := 1082) (a := 44) (As := []) lL_132 dL_law_1082 (by decide) hw1 rfl (Nat.le_of_ble_eq_true rfl) rfl hr ?_
  rintro _ w2 ⟨rfl, hI2⟩
  refine x_pushI ?_
  refine x_icmp_eq (pc := 1085) (tgt := 1113) dL_law_1085 (by decide) (fun _ => ?_) (fun h => absurd rfl h)
  exact kk w2 hI2
theorem law_many {b L : Nat} {xs : Nat → Int32} {w : mW} {k : Nat} (hL : L ≤ 3072) (hI : Inv w) (hk : k + 6 ≤ L) (kk : ∀ w2, Inv w2 → mJ (xL b L xs) 21 kL lQ 1113 [.ref 100, .ref 0, .ref 44, .int (nI k)] [] w2) : mJ (xL b L xs) 21 kL lQ 1090 [.ref 100, .ref 0, .ref 44, .int (nI k)] [] w := by
  obtain ⟨_, hw0, -⟩ := hI.1.obj (a := 0) rfl
  obtain ⟨_, hw44, -⟩ := hI.1.obj (a := 44) rfl
  refine x_aload_n (pc := 1090) (i := 1) dL_law_1090 rfl rfl ?_
  refine x_aload_n (pc := 1091) (i := 0) dL_law_1091 rfl rfl ?_
  refine x_iload_n (pc := 1092) (i := 3) dL_law_1092 rfl rfl ?_
  refine x_iconst (pc := 1093) (v := 1) dL_law_1093 (by decide) ?_
  refine x_iadd (pc := 1094) dL_law_1094 ?_
  refine x_sld (pc := 1095) dL_law_1095 (law_in (j := 1) hk hL ⟨by decide, rfl⟩) ?_
  refine x_virtT (M := kL) (pc := 1096) (a := 0) (As := [.int (xs (nI k + 1).toNatClampNeg)]) lL_133 dL_law_1096 (by decide) hw0 rfl (Nat.le_of_ble_eq_true rfl) rfl ((both_many (w := w) hI _) 0) ?_
  intro r w1 ht hk1 hr
  obtain ⟨y, rfl⟩ := mTy_int (M := kX7_many) rfl ht
  refine x_pushI ?_
  refine x_aload_n (pc := 1099) (i := 2) dL_law_1099 rfl rfl ?_
  refine x_aload_n (pc := 1100) (i := 0) dL_law_1100 rfl rfl ?_
  refine x_iload_n (pc := 1101) (i := 3) dL_law_1101 rfl rfl ?_
  refine x_iconst (pc := 1102) (v := 1) dL_law_1102 (by decide) ?_
  refine x_iadd (pc := 1103) dL_law_1103 ?_
  refine x_sld (pc := 1104) dL_law_1104 (law_in (j := 1) hk hL ⟨by decide, rfl⟩) ?_
  obtain ⟨_, hw1⟩ := mK_obj hk1 hw44
  refine x_virt (M := kL) (pc := 1105) (a := 44) (As := [.int (xs (nI k + 1).toNatClampNeg)]) lL_136 dL_law_1105 (by decide) hw1 rfl (Nat.le_of_ble_eq_true rfl) rfl hr ?_
  rintro _ w2 ⟨rfl, hI2⟩
  refine x_pushI ?_
  refine x_icmp_eq (pc := 1108) (tgt := 1113) dL_law_1108 (by decide) (fun _ => ?_) (fun h => absurd rfl h)
  exact kk w2 hI2
theorem law_step {b L : Nat} {xs : Nat → Int32} {w : mW} {k : Nat} (hL : L ≤ 3072) (hI : Inv w) (hk : k ≤ L + 6) (ih : k + 6 ≤ L → ∀ w2, Inv w2 → mJ (xL b L xs) 21 kL lQ 18 [.ref 100, .ref 0, .ref 44, .int (nI (k + 6))] [] w2) : mJ (xL b L xs) 21 kL lQ 18 [.ref 100, .ref 0, .ref 44, .int (nI k)] [] w := by
  refine x_iload_n (pc := 18) (i := 3) dL_law_18 rfl rfl ?_
  refine x_aload_n (pc := 19) (i := 0) dL_law_19 rfl rfl ?_
  refine x_slen (pc := 20) dL_law_20 ?_
  refine x_bipush (pc := 21) (v := 6) dL_law_21 (by decide) ?_
  refine x_isub (pc := 23) dL_law_23 ?_
  have e1 : (nI k).toInt = (k : Int) := nI_toInt (by omega)
  have e2 : (nI L).toInt = (L : Int) := nI_toInt (by omega)
  have e3 : (nI L - 6).toInt = (nI L).toInt - (6 : Int32).toInt := i_sub (by rw [il_6]; omega) (by rw [il_6]; omega)
  rw [il_6] at e3
  refine x_icmp_gt (pc := 24) (tgt := 1119) dL_law_24 (by decide) (fun _ => ?_) (fun h => ?_)
  · refine x_iconst (pc := 1119) (v := 1) dL_law_1119 (by decide) ?_
    exact x_ri (pc := 1120) (ty := .boolean) dL_law_1120 rfl rfl rfl
  · have hk6 : k + 6 ≤ L := by rw [i_lt] at h; omega
    have kk : ∀ w2, Inv w2 → mJ (xL b L xs) 21 kL lQ 1113 [.ref 100, .ref 0, .ref 44, .int (nI k)] [] w2 := by
      intro w2 h2
      have e4 : nI k + Int32.ofInt 6 = nI (k + 6) := by
        rw [i_eq, nI_toInt (by omega), i_add]
        · rw [e1]; show (k : Int) + (6 : Int32).toInt = _; rw [il_6]; omega
        · rw [e1]; show _ ≤ (k : Int) + (6 : Int32).toInt; rw [il_6]; omega
        · rw [e1]; show (k : Int) + (6 : Int32).toInt ≤ _; rw [il_6]; omega
      refine x_iinc (pc := 1113) (L' := [.ref 100, .ref 0, .ref 44, .int (nI (k + 6))]) dL_law_1113 (by decide) rfl e4 rfl ?_
      exact x_goto (pc := 1116) (tgt := 18) dL_law_1116 (by decide) (ih hk6 w2 h2)
    refine x_aload_n (pc := 27) (i := 0) dL_law_27 rfl rfl ?_
    refine x_iload_n (pc := 28) (i := 3) dL_law_28 rfl rfl ?_
    refine x_sld (pc := 29) dL_law_29 (vp_in_nI (by omega) (by omega)) ?_
    refine x_bipush (pc := 30) (v := 31) dL_law_30 (by decide) ?_
    refine x_iand (pc := 32) dL_law_32 ?_
    generalize xs (nI k).toNatClampNeg &&& 31 = z
    by_cases g0 : z = 0
    · rw [g0]
      exact x_tableIn (pc := 33) (tgt := 164) dL_law_33 (by decide) (by decide) rfl (by decide) (law_down hL hI hk6 kk)
    by_cases g1 : z = 1
    · rw [g1]
      exact x_tableIn (pc := 33) (tgt := 217) dL_law_33 (by decide) (by decide) rfl (by decide) (law_ofBarrow hL hI hk6 kk)
    by_cases g2 : z = 2
    · rw [g2]
      exact x_tableIn (pc := 33) (tgt := 250) dL_law_33 (by decide) (by decide) rfl (by decide) (law_ofWalker hL hI hk6 kk)
    by_cases g3 : z = 3
    · rw [g3]
      exact x_tableIn (pc := 33) (tgt := 283) dL_law_33 (by decide) (by decide) rfl (by decide) (law_charge hL hI hk6 kk)
    by_cases g4 : z = 4
    · rw [g4]
      exact x_tableIn (pc := 33) (tgt := 316) dL_law_33 (by decide) (by decide) rfl (by decide) (law_earn hL hI hk6 kk)
    by_cases g5 : z = 5
    · rw [g5]
      exact x_tableIn (pc := 33) (tgt := 349) dL_law_33 (by decide) (by decide) rfl (by decide) (law_lodge hL hI hk6 kk)
    by_cases g6 : z = 6
    · rw [g6]
      exact x_tableIn (pc := 33) (tgt := 382) dL_law_33 (by decide) (by decide) rfl (by decide) (law_leave hL hI hk6 kk)
    by_cases g7 : z = 7
    · rw [g7]
      exact x_tableIn (pc := 33) (tgt := 405) dL_law_33 (by decide) (by decide) rfl (by decide) (law_night hL hI hk6 kk)
    by_cases g8 : z = 8
    · rw [g8]
      exact x_tableIn (pc := 33) (tgt := 428) dL_law_33 (by decide) (by decide) rfl (by decide) (law_season hL hI hk6 kk)
    by_cases g9 : z = 9
    · rw [g9]
      exact x_tableIn (pc := 33) (tgt := 491) dL_law_33 (by decide) (by decide) rfl (by decide) (law_housed hL hI hk6 kk)
    by_cases g10 : z = 10
    · rw [g10]
      exact x_tableIn (pc := 33) (tgt := 514) dL_law_33 (by decide) (by decide) rfl (by decide) (law_ploughed hL hI hk6 kk)
    by_cases g11 : z = 11
    · rw [g11]
      exact x_tableIn (pc := 33) (tgt := 537) dL_law_33 (by decide) (by decide) rfl (by decide) (law_way hL hI hk6 kk)
    by_cases g12 : z = 12
    · rw [g12]
      exact x_tableIn (pc := 33) (tgt := 570) dL_law_33 (by decide) (by decide) rfl (by decide) (law_lain hL hI hk6 kk)
    by_cases g13 : z = 13
    · rw [g13]
      exact x_tableIn (pc := 33) (tgt := 623) dL_law_33 (by decide) (by decide) rfl (by decide) (law_reading hL hI hk6 kk)
    by_cases g14 : z = 14
    · rw [g14]
      exact x_tableIn (pc := 33) (tgt := 666) dL_law_33 (by decide) (by decide) rfl (by decide) (law_back hL hI hk6 kk)
    by_cases g15 : z = 15
    · rw [g15]
      exact x_tableIn (pc := 33) (tgt := 689) dL_law_33 (by decide) (by decide) rfl (by decide) (law_rooms hL hI hk6 kk)
    by_cases g16 : z = 16
    · rw [g16]
      exact x_tableIn (pc := 33) (tgt := 712) dL_law_33 (by decide) (by decide) rfl (by decide) (law_kinds hL hI hk6 kk)
    by_cases g17 : z = 17
    · rw [g17]
      exact x_tableIn (pc := 33) (tgt := 735) dL_law_33 (by decide) (by decide) rfl (by decide) (law_odds hL hI hk6 kk)
    by_cases g18 : z = 18
    · rw [g18]
      exact x_tableIn (pc := 33) (tgt := 769) dL_law_33 (by decide) (by decide) rfl (by decide) (law_sheet hL hI hk6 kk)
    by_cases g19 : z = 19
    · rw [g19]
      exact x_tableIn (pc := 33) (tgt := 812) dL_law_33 (by decide) (by decide) rfl (by decide) (law_lose hL hI hk6 kk)
    by_cases g20 : z = 20
    · rw [g20]
      exact x_tableIn (pc := 33) (tgt := 835) dL_law_33 (by decide) (by decide) rfl (by decide) (law_put hL hI hk6 kk)
    by_cases g21 : z = 21
    · rw [g21]
      exact x_tableIn (pc := 33) (tgt := 878) dL_law_33 (by decide) (by decide) rfl (by decide) (law_cell hL hI hk6 kk)
    by_cases g22 : z = 22
    · rw [g22]
      exact x_tableIn (pc := 33) (tgt := 922) dL_law_33 (by decide) (by decide) rfl (by decide) (law_copy hL hI hk6 kk)
    by_cases g23 : z = 23
    · rw [g23]
      exact x_tableIn (pc := 33) (tgt := 985) dL_law_33 (by decide) (by decide) rfl (by decide) (law_tell hL hI hk6 kk)
    by_cases g24 : z = 24
    · rw [g24]
      exact x_tableIn (pc := 33) (tgt := 1008) dL_law_33 (by decide) (by decide) rfl (by decide) (law_haunt hL hI hk6 kk)
    by_cases g25 : z = 25
    · rw [g25]
      exact x_tableIn (pc := 33) (tgt := 1031) dL_law_33 (by decide) (by decide) rfl (by decide) (law_as hL hI hk6 kk)
    by_cases g26 : z = 26
    · rw [g26]
      exact x_tableIn (pc := 33) (tgt := 1064) dL_law_33 (by decide) (by decide) rfl (by decide) (law_trace hL hI hk6 kk)
    by_cases g27 : z = 27
    · rw [g27]
      exact x_tableIn (pc := 33) (tgt := 1077) dL_law_33 (by decide) (by decide) rfl (by decide) (law_fault hL hI hk6 kk)
    by_cases g28 : z = 28
    · rw [g28]
      exact x_tableIn (pc := 33) (tgt := 1090) dL_law_33 (by decide) (by decide) rfl (by decide) (law_many hL hI hk6 kk)
    exact x_tableOut (pc := 33) (tgt := 1113) dL_law_33 (sw_out29 g0 g1 g2 g3 g4 g5 g6 g7 g8 g9 g10 g11 g12 g13 g14 g15 g16 g17 g18 g19 g20 g21 g22 g23 g24 g25 g26 g27 g28) (by decide) (kk w hI)
theorem law_loop {b L : Nat} {xs : Nat → Int32} (hL : L ≤ 3072) : ∀ (n k : Nat) (w : mW), Inv w → L ≤ k + n → k ≤ L + 6 → mJ (xL b L xs) 21 kL lQ 18 [.ref 100, .ref 0, .ref 44, .int (nI k)] [] w := by
  intro n
  induction n with
  | zero => exact fun k w hI h1 h2 => law_step hL hI h2 (fun h => by omega)
  | succ n ih => exact fun k w hI h1 h2 => law_step hL hI h2 (fun h w2 hI2 => ih (k + 6) w2 hI2 (by omega) (by omega))

