/-! the law's own loop -/
def LX (X : XT) (b L : Nat) (xs : Nat → Int32) : Prop := match X with
  | (p, l, e, R, s, m, args, below, meth, c, cells, slots, Q, A) => va_X b L xs s s.heap ∧ b < s.heap.size ∧ ¬ A b
section AWL
variable {X : XT} {G : GT} {d : Nat} {own : String} {cc : ByteArray} {nL : Nat} {pc : Nat} {Lc st : List Value} {S : St} {b L : Nat} {xs : Nat → Int32}
theorem aw_sld (hX : XC X G d own cc nL) (hLX : LX X b L xs) {j : Nat} (hL : L < 2 ^ 31) (hj : j < L) (hd : decode cc pc = .ok (.iaload, 1)) (k : AW X G (pc + 1) Lc (.int (xs j) :: st) S) : AW X G pc Lc (.int (nI j) :: .ref b :: st) S := by
  obtain ⟨p, l, e, R, s, m, args, below, meth, c, cells, slots, Q, A⟩ := X
  refine fun H locs ls hP hS hl => va_sld hX.1 hX.2.1 hLX.1 hLX.2.1 hLX.2.2 hS (vp_in_nI hj hL) hd ?_
  rw [nI_clamp (by omega)]
  exact k H locs ls hP hS hl
theorem aw_slen (hX : XC X G d own cc nL) (hLX : LX X b L xs) (hd : decode cc pc = .ok (.arraylength, 1)) (k : AW X G (pc + 1) Lc (.int (nI L) :: st) S) : AW X G pc Lc (.ref b :: st) S := by
  obtain ⟨p, l, e, R, s, m, args, below, meth, c, cells, slots, Q, A⟩ := X
  exact fun H locs ls hP hS hl => va_slen hX.1 hX.2.1 hLX.1 hLX.2.1 hLX.2.2 hS hd (k H locs ls hP hS hl)
end AWL
theorem le_m9 {i L : Nat} (hi : i < 2 ^ 30) (hL : L < 2 ^ 30) : nI i ≤ nI L - nI 9 ↔ i + 9 ≤ L := by
  rw [Int32.le_iff_toInt_le, pk_sub_toInt hL (by decide), nI_toInt (by omega)]
  omega
theorem lg_self (x : Int64) : lg_cmp x x = 0 := by
  unfold lg_cmp
  simp
set_option maxHeartbeats 8000000 in
set_option maxRecDepth 100000 in
theorem law_loop_open (hLaw : ∀ (G : GT) (S : St), Rel S → ∃ (r : Int32) (S1 S2 : St), rX7_law G 10 [.ref (gad G 0)] S (some (.int r)) S1 ∧ rX8_law G 10 [.ref (gad G 8)] S1 (some (.int r)) S2 ∧ Rel S2) (hRound : ∀ (G : GT) (S : St), Rel S → ∀ hd n day : Int32, ∃ (r : Int32) (S1 S2 : St), rX7_round G 10 [.ref (gad G 0), .int hd, .int n, .int day] S (some (.int r)) S1 ∧ rX8_round G 10 [.ref (gad G 8), .int hd, .int n, .int day] S1 (some (.int r)) S2 ∧ Rel S2) {X : XT} {G : GT} {b L : Nat} {xs : Nat → Int32} (hX : XC X G 10 RL cL_law 4) (hLX : LX X b L xs) (hL : L ≤ 4608) (hEnd : ∀ (pc : Nat) (Lc : List Value) (S : St), decode cL_law pc = .ok (.ireturn, 1) → AW X G pc Lc [.int (nI 1)] S) : ∀ n i : Nat, L ≤ i + n → i ≤ 4608 + 9 → ∀ S : St, Rel S → AW X G 18 [.ref b, .ref (gad G 0), .ref (gad G 8), .int (nI i)] [] S := by
  have hL31 : L < 2 ^ 31 := by omega
  intro n
  induction n with
  | zero =>
    intro i hin hi S hrel
    refine aw_iload_3 hX dL_law_18 ?_
    refine aw_aload_0 hX dL_law_19 ?_
    refine aw_slen hX hLX dL_law_20 ?_
    refine aw_bipush hX (v := nI 9) (by decide) dL_law_21 ?_
    refine aw_isub hX dL_law_23 ?_
    refine aw_jgt hX (tgt := 894) dL_law_24 (by decide) (fun c_24 => ?_) (fun c_24 => ?_)
    · skip
      refine aw_iconst hX (v := nI 1) (by decide) dL_law_894 ?_
      exact hEnd _ _ S dL_law_895
    · exact absurd ((le_m9 (by omega) (by omega)).mp c_24) (by omega)
  | succ n ih =>
    intro i hin hi S hrel
    obtain ⟨j, hj, e31⟩ := pk_andE (xs i) (m := nI 31) 5 (by decide)
    have tail : i + 9 ≤ L → ∀ S' : St, Rel S' → AW X G 888 [.ref b, .ref (gad G 0), .ref (gad G 8), .int (nI i)] [] S' := by
      intro hi9 S' hS'
      refine aw_iinc_3 hX rfl (by decide) dL_law_888 ?_
      refine aw_goto hX (tgt := 18) dL_law_891 (by decide) ?_
      rw [show nI i + Int32.ofInt 9 = nI (i + 9) from nI_add i 9]
      exact ih (i + 9) (by omega) (by omega) S' hS'
    refine aw_iload_3 hX dL_law_18 ?_
    refine aw_aload_0 hX dL_law_19 ?_
    refine aw_slen hX hLX dL_law_20 ?_
    refine aw_bipush hX (v := nI 9) (by decide) dL_law_21 ?_
    refine aw_isub hX dL_law_23 ?_
    refine aw_jgt hX (tgt := 894) dL_law_24 (by decide) (fun c_24 => ?_) (fun c_24 => ?_)
    · skip
      refine aw_iconst hX (v := nI 1) (by decide) dL_law_894 ?_
      exact hEnd _ _ S dL_law_895
    · have hi9 := (le_m9 (by omega) (by omega)).mp c_24
      refine aw_aload_0 hX dL_law_27 ?_
      refine aw_iload_3 hX dL_law_28 ?_
      refine aw_sld hX hLX hL31 (by omega) dL_law_29 ?_
      refine aw_bipush hX (v := nI 31) (by decide) dL_law_30 ?_
      refine aw_iand hX dL_law_32 ?_
      refine aw_ti e31 ?_
      rcases (show j = 0 ∨ j = 1 ∨ j = 2 ∨ j = 3 ∨ j = 4 ∨ j = 5 ∨ j = 6 ∨ j = 7 ∨ j = 8 ∨ j = 9 ∨ j = 10 ∨ j = 11 ∨ j = 12 ∨ j = 13 ∨ j = 14 ∨ j = 15 ∨ j = 16 ∨ j = 17 ∨ j = 18 ∨ j = 19 ∨ j = 20 ∨ j = 21 ∨ j = 22 ∨ 23 ≤ j by omega) with rfl | rfl | rfl | rfl | rfl | rfl | rfl | rfl | rfl | rfl | rfl | rfl | rfl | rfl | rfl | rfl | rfl | rfl | rfl | rfl | rfl | rfl | rfl | hj23
      · obtain ⟨r, S1, S2, h1, h2, hrel2⟩ := st_type G S hrel (((xs (i + 1)).toInt64 <<< ((nI 32).toInt64 &&& 63)) ||| ((xs (i + 2)).toInt64 &&& 4294967295)) (xs (i + 3))
        refine aw_tabIn hX (x := nI 0) (off := 107) (tgt := 140) dL_law_33 (by decide) (by decide) (by decide) (by decide) ?_
        refine aw_aload_1 hX dL_law_140 ?_
        refine aw_aload_0 hX dL_law_141 ?_
        refine aw_iload_3 hX dL_law_142 ?_
        refine aw_iconst hX (v := nI 1) (by decide) dL_law_143 ?_
        first | with_reducible refine aw_iaddN hX dL_law_144 ?_ | refine aw_iadd hX dL_law_144 ?_
        refine aw_sld hX hLX hL31 (by omega) dL_law_145 ?_
        refine aw_i2l hX dL_law_146 ?_
        refine aw_bipush hX (v := nI 32) (by decide) dL_law_147 ?_
        refine aw_lshl hX dL_law_149 ?_
        refine aw_aload_0 hX dL_law_150 ?_
        refine aw_iload_3 hX dL_law_151 ?_
        refine aw_iconst hX (v := nI 2) (by decide) dL_law_152 ?_
        first | with_reducible refine aw_iaddN hX dL_law_153 ?_ | refine aw_iadd hX dL_law_153 ?_
        refine aw_sld hX hLX hL31 (by omega) dL_law_154 ?_
        refine aw_i2l hX dL_law_155 ?_
        refine aw_ldc2 hX kc_L_13 dL_law_156 ?_
        refine aw_land hX dL_law_159 ?_
        refine aw_lor hX dL_law_160 ?_
        refine aw_aload_0 hX dL_law_161 ?_
        refine aw_iload_3 hX dL_law_162 ?_
        refine aw_iconst hX (v := nI 3) (by decide) dL_law_163 ?_
        first | with_reducible refine aw_iaddN hX dL_law_164 ?_ | refine aw_iadd hX dL_law_164 ?_
        refine aw_sld hX hLX hL31 (by omega) dL_law_165 ?_
        refine cv_X7_type hX ml_L_15 dL_law_166 h1 (Nat.le_of_ble_eq_true rfl) ?_
        refine aw_aload_2 hX dL_law_169 ?_
        refine aw_aload_0 hX dL_law_170 ?_
        refine aw_iload_3 hX dL_law_171 ?_
        refine aw_iconst hX (v := nI 1) (by decide) dL_law_172 ?_
        first | with_reducible refine aw_iaddN hX dL_law_173 ?_ | refine aw_iadd hX dL_law_173 ?_
        refine aw_sld hX hLX hL31 (by omega) dL_law_174 ?_
        refine aw_i2l hX dL_law_175 ?_
        refine aw_bipush hX (v := nI 32) (by decide) dL_law_176 ?_
        refine aw_lshl hX dL_law_178 ?_
        refine aw_aload_0 hX dL_law_179 ?_
        refine aw_iload_3 hX dL_law_180 ?_
        refine aw_iconst hX (v := nI 2) (by decide) dL_law_181 ?_
        first | with_reducible refine aw_iaddN hX dL_law_182 ?_ | refine aw_iadd hX dL_law_182 ?_
        refine aw_sld hX hLX hL31 (by omega) dL_law_183 ?_
        refine aw_i2l hX dL_law_184 ?_
        refine aw_ldc2 hX kc_L_13 dL_law_185 ?_
        refine aw_land hX dL_law_188 ?_
        refine aw_lor hX dL_law_189 ?_
        refine aw_aload_0 hX dL_law_190 ?_
        refine aw_iload_3 hX dL_law_191 ?_
        refine aw_iconst hX (v := nI 3) (by decide) dL_law_192 ?_
        first | with_reducible refine aw_iaddN hX dL_law_193 ?_ | refine aw_iadd hX dL_law_193 ?_
        refine aw_sld hX hLX hL31 (by omega) dL_law_194 ?_
        refine cv_X8_type hX ml_L_19 dL_law_195 h2 (Nat.le_of_ble_eq_true rfl) ?_
        first | with_reducible refine aw_icmpeqN hX (tgt := 888) dL_law_198 (by decide) (by omega) (by omega) (fun c_198 => ?_) (fun c_198 => ?_) | refine aw_icmpeq hX (tgt := 888) dL_law_198 (by decide) (fun c_198 => ?_) (fun c_198 => ?_)
        · skip
          exact tail hi9 S2 hrel2
        · exact absurd rfl c_198
      · obtain ⟨r, S1, S2, h1, h2, hrel2⟩ := st_clear G S hrel 
        refine aw_tabIn hX (x := nI 1) (off := 170) (tgt := 203) dL_law_33 (by decide) (by decide) (by decide) (by decide) ?_
        refine aw_aload_1 hX dL_law_203 ?_
        refine cv_X7_clear hX ml_L_20 dL_law_204 h1 (Nat.le_of_ble_eq_true rfl) ?_
        refine aw_aload_2 hX dL_law_207 ?_
        refine cv_X8_clear hX ml_L_24 dL_law_208 h2 (Nat.le_of_ble_eq_true rfl) ?_
        first | with_reducible refine aw_icmpeqN hX (tgt := 888) dL_law_211 (by decide) (by omega) (by omega) (fun c_211 => ?_) (fun c_211 => ?_) | refine aw_icmpeq hX (tgt := 888) dL_law_211 (by decide) (fun c_211 => ?_) (fun c_211 => ?_)
        · skip
          exact tail hi9 S2 hrel2
        · exact absurd rfl c_211
      · obtain ⟨r, S1, S2, h1, h2, hrel2⟩ := hLaw G S hrel 
        refine aw_tabIn hX (x := nI 2) (off := 183) (tgt := 216) dL_law_33 (by decide) (by decide) (by decide) (by decide) ?_
        refine aw_aload_1 hX dL_law_216 ?_
        refine cv_X7_law hX ml_L_25 dL_law_217 h1 (Nat.le_of_ble_eq_true rfl) ?_
        refine aw_aload_2 hX dL_law_220 ?_
        refine cv_X8_law hX ml_L_28 dL_law_221 h2 (Nat.le_of_ble_eq_true rfl) ?_
        first | with_reducible refine aw_icmpeqN hX (tgt := 888) dL_law_224 (by decide) (by omega) (by omega) (fun c_224 => ?_) (fun c_224 => ?_) | refine aw_icmpeq hX (tgt := 888) dL_law_224 (by decide) (fun c_224 => ?_) (fun c_224 => ?_)
        · skip
          exact tail hi9 S2 hrel2
        · exact absurd rfl c_224
      · obtain ⟨r, S1, S2, h1, h2, hrel2⟩ := st_span G S hrel (xs (i + 1)) (xs (i + 2))
        refine aw_tabIn hX (x := nI 3) (off := 196) (tgt := 229) dL_law_33 (by decide) (by decide) (by decide) (by decide) ?_
        refine aw_aload_1 hX dL_law_229 ?_
        refine aw_aload_0 hX dL_law_230 ?_
        refine aw_iload_3 hX dL_law_231 ?_
        refine aw_iconst hX (v := nI 1) (by decide) dL_law_232 ?_
        first | with_reducible refine aw_iaddN hX dL_law_233 ?_ | refine aw_iadd hX dL_law_233 ?_
        refine aw_sld hX hLX hL31 (by omega) dL_law_234 ?_
        refine aw_aload_0 hX dL_law_235 ?_
        refine aw_iload_3 hX dL_law_236 ?_
        refine aw_iconst hX (v := nI 2) (by decide) dL_law_237 ?_
        first | with_reducible refine aw_iaddN hX dL_law_238 ?_ | refine aw_iadd hX dL_law_238 ?_
        refine aw_sld hX hLX hL31 (by omega) dL_law_239 ?_
        refine cv_X7_span hX ml_L_29 dL_law_240 h1 (Nat.le_of_ble_eq_true rfl) ?_
        refine aw_aload_2 hX dL_law_243 ?_
        refine aw_aload_0 hX dL_law_244 ?_
        refine aw_iload_3 hX dL_law_245 ?_
        refine aw_iconst hX (v := nI 1) (by decide) dL_law_246 ?_
        first | with_reducible refine aw_iaddN hX dL_law_247 ?_ | refine aw_iadd hX dL_law_247 ?_
        refine aw_sld hX hLX hL31 (by omega) dL_law_248 ?_
        refine aw_aload_0 hX dL_law_249 ?_
        refine aw_iload_3 hX dL_law_250 ?_
        refine aw_iconst hX (v := nI 2) (by decide) dL_law_251 ?_
        first | with_reducible refine aw_iaddN hX dL_law_252 ?_ | refine aw_iadd hX dL_law_252 ?_
        refine aw_sld hX hLX hL31 (by omega) dL_law_253 ?_
        refine cv_X8_span hX ml_L_33 dL_law_254 h2 (Nat.le_of_ble_eq_true rfl) ?_
        first | with_reducible refine aw_icmpeqN hX (tgt := 888) dL_law_257 (by decide) (by omega) (by omega) (fun c_257 => ?_) (fun c_257 => ?_) | refine aw_icmpeq hX (tgt := 888) dL_law_257 (by decide) (fun c_257 => ?_) (fun c_257 => ?_)
        · skip
          exact tail hi9 S2 hrel2
        · exact absurd rfl c_257
      · obtain ⟨r, S1, S2, h1, h2, hrel2⟩ := st_days G S hrel (xs (i + 1))
        refine aw_tabIn hX (x := nI 4) (off := 229) (tgt := 262) dL_law_33 (by decide) (by decide) (by decide) (by decide) ?_
        refine aw_aload_1 hX dL_law_262 ?_
        refine aw_aload_0 hX dL_law_263 ?_
        refine aw_iload_3 hX dL_law_264 ?_
        refine aw_iconst hX (v := nI 1) (by decide) dL_law_265 ?_
        first | with_reducible refine aw_iaddN hX dL_law_266 ?_ | refine aw_iadd hX dL_law_266 ?_
        refine aw_sld hX hLX hL31 (by omega) dL_law_267 ?_
        refine cv_X7_days hX ml_L_34 dL_law_268 h1 (Nat.le_of_ble_eq_true rfl) ?_
        refine aw_aload_2 hX dL_law_271 ?_
        refine aw_aload_0 hX dL_law_272 ?_
        refine aw_iload_3 hX dL_law_273 ?_
        refine aw_iconst hX (v := nI 1) (by decide) dL_law_274 ?_
        first | with_reducible refine aw_iaddN hX dL_law_275 ?_ | refine aw_iadd hX dL_law_275 ?_
        refine aw_sld hX hLX hL31 (by omega) dL_law_276 ?_
        refine cv_X8_days hX ml_L_38 dL_law_277 h2 (Nat.le_of_ble_eq_true rfl) ?_
        first | with_reducible refine aw_icmpeqN hX (tgt := 888) dL_law_280 (by decide) (by omega) (by omega) (fun c_280 => ?_) (fun c_280 => ?_) | refine aw_icmpeq hX (tgt := 888) dL_law_280 (by decide) (fun c_280 => ?_) (fun c_280 => ?_)
        · skip
          exact tail hi9 S2 hrel2
        · exact absurd rfl c_280
      · obtain ⟨r, S1, S2, h1, h2, hrel2⟩ := st_flue G S hrel (xs (i + 1)) (xs (i + 2)) (xs (i + 3)) (xs (i + 4)) (xs (i + 5)) (xs (i + 6)) (xs (i + 7)) (xs (i + 8))
        refine aw_tabIn hX (x := nI 5) (off := 252) (tgt := 285) dL_law_33 (by decide) (by decide) (by decide) (by decide) ?_
        refine aw_aload_1 hX dL_law_285 ?_
        refine aw_aload_0 hX dL_law_286 ?_
        refine aw_iload_3 hX dL_law_287 ?_
        refine aw_iconst hX (v := nI 1) (by decide) dL_law_288 ?_
        first | with_reducible refine aw_iaddN hX dL_law_289 ?_ | refine aw_iadd hX dL_law_289 ?_
        refine aw_sld hX hLX hL31 (by omega) dL_law_290 ?_
        refine aw_aload_0 hX dL_law_291 ?_
        refine aw_iload_3 hX dL_law_292 ?_
        refine aw_iconst hX (v := nI 2) (by decide) dL_law_293 ?_
        first | with_reducible refine aw_iaddN hX dL_law_294 ?_ | refine aw_iadd hX dL_law_294 ?_
        refine aw_sld hX hLX hL31 (by omega) dL_law_295 ?_
        refine aw_aload_0 hX dL_law_296 ?_
        refine aw_iload_3 hX dL_law_297 ?_
        refine aw_iconst hX (v := nI 3) (by decide) dL_law_298 ?_
        first | with_reducible refine aw_iaddN hX dL_law_299 ?_ | refine aw_iadd hX dL_law_299 ?_
        refine aw_sld hX hLX hL31 (by omega) dL_law_300 ?_
        refine aw_aload_0 hX dL_law_301 ?_
        refine aw_iload_3 hX dL_law_302 ?_
        refine aw_iconst hX (v := nI 4) (by decide) dL_law_303 ?_
        first | with_reducible refine aw_iaddN hX dL_law_304 ?_ | refine aw_iadd hX dL_law_304 ?_
        refine aw_sld hX hLX hL31 (by omega) dL_law_305 ?_
        refine aw_aload_0 hX dL_law_306 ?_
        refine aw_iload_3 hX dL_law_307 ?_
        refine aw_iconst hX (v := nI 5) (by decide) dL_law_308 ?_
        first | with_reducible refine aw_iaddN hX dL_law_309 ?_ | refine aw_iadd hX dL_law_309 ?_
        refine aw_sld hX hLX hL31 (by omega) dL_law_310 ?_
        refine aw_aload_0 hX dL_law_311 ?_
        refine aw_iload_3 hX dL_law_312 ?_
        refine aw_bipush hX (v := nI 6) (by decide) dL_law_313 ?_
        first | with_reducible refine aw_iaddN hX dL_law_315 ?_ | refine aw_iadd hX dL_law_315 ?_
        refine aw_sld hX hLX hL31 (by omega) dL_law_316 ?_
        refine aw_aload_0 hX dL_law_317 ?_
        refine aw_iload_3 hX dL_law_318 ?_
        refine aw_bipush hX (v := nI 7) (by decide) dL_law_319 ?_
        first | with_reducible refine aw_iaddN hX dL_law_321 ?_ | refine aw_iadd hX dL_law_321 ?_
        refine aw_sld hX hLX hL31 (by omega) dL_law_322 ?_
        refine aw_aload_0 hX dL_law_323 ?_
        refine aw_iload_3 hX dL_law_324 ?_
        refine aw_bipush hX (v := nI 8) (by decide) dL_law_325 ?_
        first | with_reducible refine aw_iaddN hX dL_law_327 ?_ | refine aw_iadd hX dL_law_327 ?_
        refine aw_sld hX hLX hL31 (by omega) dL_law_328 ?_
        refine cv_X7_flue hX ml_L_39 dL_law_329 h1 (Nat.le_of_ble_eq_true rfl) ?_
        refine aw_aload_2 hX dL_law_332 ?_
        refine aw_aload_0 hX dL_law_333 ?_
        refine aw_iload_3 hX dL_law_334 ?_
        refine aw_iconst hX (v := nI 1) (by decide) dL_law_335 ?_
        first | with_reducible refine aw_iaddN hX dL_law_336 ?_ | refine aw_iadd hX dL_law_336 ?_
        refine aw_sld hX hLX hL31 (by omega) dL_law_337 ?_
        refine aw_aload_0 hX dL_law_338 ?_
        refine aw_iload_3 hX dL_law_339 ?_
        refine aw_iconst hX (v := nI 2) (by decide) dL_law_340 ?_
        first | with_reducible refine aw_iaddN hX dL_law_341 ?_ | refine aw_iadd hX dL_law_341 ?_
        refine aw_sld hX hLX hL31 (by omega) dL_law_342 ?_
        refine aw_aload_0 hX dL_law_343 ?_
        refine aw_iload_3 hX dL_law_344 ?_
        refine aw_iconst hX (v := nI 3) (by decide) dL_law_345 ?_
        first | with_reducible refine aw_iaddN hX dL_law_346 ?_ | refine aw_iadd hX dL_law_346 ?_
        refine aw_sld hX hLX hL31 (by omega) dL_law_347 ?_
        refine aw_aload_0 hX dL_law_348 ?_
        refine aw_iload_3 hX dL_law_349 ?_
        refine aw_iconst hX (v := nI 4) (by decide) dL_law_350 ?_
        first | with_reducible refine aw_iaddN hX dL_law_351 ?_ | refine aw_iadd hX dL_law_351 ?_
        refine aw_sld hX hLX hL31 (by omega) dL_law_352 ?_
        refine aw_aload_0 hX dL_law_353 ?_
        refine aw_iload_3 hX dL_law_354 ?_
        refine aw_iconst hX (v := nI 5) (by decide) dL_law_355 ?_
        first | with_reducible refine aw_iaddN hX dL_law_356 ?_ | refine aw_iadd hX dL_law_356 ?_
        refine aw_sld hX hLX hL31 (by omega) dL_law_357 ?_
        refine aw_aload_0 hX dL_law_358 ?_
        refine aw_iload_3 hX dL_law_359 ?_
        refine aw_bipush hX (v := nI 6) (by decide) dL_law_360 ?_
        first | with_reducible refine aw_iaddN hX dL_law_362 ?_ | refine aw_iadd hX dL_law_362 ?_
        refine aw_sld hX hLX hL31 (by omega) dL_law_363 ?_
        refine aw_aload_0 hX dL_law_364 ?_
        refine aw_iload_3 hX dL_law_365 ?_
        refine aw_bipush hX (v := nI 7) (by decide) dL_law_366 ?_
        first | with_reducible refine aw_iaddN hX dL_law_368 ?_ | refine aw_iadd hX dL_law_368 ?_
        refine aw_sld hX hLX hL31 (by omega) dL_law_369 ?_
        refine aw_aload_0 hX dL_law_370 ?_
        refine aw_iload_3 hX dL_law_371 ?_
        refine aw_bipush hX (v := nI 8) (by decide) dL_law_372 ?_
        first | with_reducible refine aw_iaddN hX dL_law_374 ?_ | refine aw_iadd hX dL_law_374 ?_
        refine aw_sld hX hLX hL31 (by omega) dL_law_375 ?_
        refine cv_X8_flue hX ml_L_43 dL_law_376 h2 (Nat.le_of_ble_eq_true rfl) ?_
        first | with_reducible refine aw_icmpeqN hX (tgt := 888) dL_law_379 (by decide) (by omega) (by omega) (fun c_379 => ?_) (fun c_379 => ?_) | refine aw_icmpeq hX (tgt := 888) dL_law_379 (by decide) (fun c_379 => ?_) (fun c_379 => ?_)
        · skip
          exact tail hi9 S2 hrel2
        · exact absurd rfl c_379
      · obtain ⟨r, S1, S2, h1, h2, hrel2⟩ := st_draught G S hrel (xs (i + 1))
        refine aw_tabIn hX (x := nI 6) (off := 351) (tgt := 384) dL_law_33 (by decide) (by decide) (by decide) (by decide) ?_
        refine aw_aload_1 hX dL_law_384 ?_
        refine aw_aload_0 hX dL_law_385 ?_
        refine aw_iload_3 hX dL_law_386 ?_
        refine aw_iconst hX (v := nI 1) (by decide) dL_law_387 ?_
        first | with_reducible refine aw_iaddN hX dL_law_388 ?_ | refine aw_iadd hX dL_law_388 ?_
        refine aw_sld hX hLX hL31 (by omega) dL_law_389 ?_
        refine cv_X7_draught hX ml_L_44 dL_law_390 h1 (Nat.le_of_ble_eq_true rfl) ?_
        refine aw_aload_2 hX dL_law_393 ?_
        refine aw_aload_0 hX dL_law_394 ?_
        refine aw_iload_3 hX dL_law_395 ?_
        refine aw_iconst hX (v := nI 1) (by decide) dL_law_396 ?_
        first | with_reducible refine aw_iaddN hX dL_law_397 ?_ | refine aw_iadd hX dL_law_397 ?_
        refine aw_sld hX hLX hL31 (by omega) dL_law_398 ?_
        refine cv_X8_draught hX ml_L_47 dL_law_399 h2 (Nat.le_of_ble_eq_true rfl) ?_
        first | with_reducible refine aw_icmpeqN hX (tgt := 888) dL_law_402 (by decide) (by omega) (by omega) (fun c_402 => ?_) (fun c_402 => ?_) | refine aw_icmpeq hX (tgt := 888) dL_law_402 (by decide) (fun c_402 => ?_) (fun c_402 => ?_)
        · skip
          exact tail hi9 S2 hrel2
        · exact absurd rfl c_402
      · obtain ⟨r, S1, S2, h1, h2, hrel2⟩ := st_about G S hrel (xs (i + 1)) (xs (i + 2))
        refine aw_tabIn hX (x := nI 7) (off := 374) (tgt := 407) dL_law_33 (by decide) (by decide) (by decide) (by decide) ?_
        refine aw_aload_1 hX dL_law_407 ?_
        refine aw_aload_0 hX dL_law_408 ?_
        refine aw_iload_3 hX dL_law_409 ?_
        refine aw_iconst hX (v := nI 1) (by decide) dL_law_410 ?_
        first | with_reducible refine aw_iaddN hX dL_law_411 ?_ | refine aw_iadd hX dL_law_411 ?_
        refine aw_sld hX hLX hL31 (by omega) dL_law_412 ?_
        refine aw_aload_0 hX dL_law_413 ?_
        refine aw_iload_3 hX dL_law_414 ?_
        refine aw_iconst hX (v := nI 2) (by decide) dL_law_415 ?_
        first | with_reducible refine aw_iaddN hX dL_law_416 ?_ | refine aw_iadd hX dL_law_416 ?_
        refine aw_sld hX hLX hL31 (by omega) dL_law_417 ?_
        refine cv_X7_about hX ml_L_48 dL_law_418 h1 (Nat.le_of_ble_eq_true rfl) ?_
        refine aw_aload_2 hX dL_law_421 ?_
        refine aw_aload_0 hX dL_law_422 ?_
        refine aw_iload_3 hX dL_law_423 ?_
        refine aw_iconst hX (v := nI 1) (by decide) dL_law_424 ?_
        first | with_reducible refine aw_iaddN hX dL_law_425 ?_ | refine aw_iadd hX dL_law_425 ?_
        refine aw_sld hX hLX hL31 (by omega) dL_law_426 ?_
        refine aw_aload_0 hX dL_law_427 ?_
        refine aw_iload_3 hX dL_law_428 ?_
        refine aw_iconst hX (v := nI 2) (by decide) dL_law_429 ?_
        first | with_reducible refine aw_iaddN hX dL_law_430 ?_ | refine aw_iadd hX dL_law_430 ?_
        refine aw_sld hX hLX hL31 (by omega) dL_law_431 ?_
        refine cv_X8_about hX ml_L_51 dL_law_432 h2 (Nat.le_of_ble_eq_true rfl) ?_
        first | with_reducible refine aw_icmpeqN hX (tgt := 888) dL_law_435 (by decide) (by omega) (by omega) (fun c_435 => ?_) (fun c_435 => ?_) | refine aw_icmpeq hX (tgt := 888) dL_law_435 (by decide) (fun c_435 => ?_) (fun c_435 => ?_)
        · skip
          exact tail hi9 S2 hrel2
        · exact absurd rfl c_435
      · obtain ⟨r, S1, S2, h1, h2, hrel2⟩ := st_due G S hrel (xs (i + 1))
        refine aw_tabIn hX (x := nI 8) (off := 407) (tgt := 440) dL_law_33 (by decide) (by decide) (by decide) (by decide) ?_
        refine aw_aload_1 hX dL_law_440 ?_
        refine aw_aload_0 hX dL_law_441 ?_
        refine aw_iload_3 hX dL_law_442 ?_
        refine aw_iconst hX (v := nI 1) (by decide) dL_law_443 ?_
        first | with_reducible refine aw_iaddN hX dL_law_444 ?_ | refine aw_iadd hX dL_law_444 ?_
        refine aw_sld hX hLX hL31 (by omega) dL_law_445 ?_
        refine cv_X7_due hX ml_L_52 dL_law_446 h1 (Nat.le_of_ble_eq_true rfl) ?_
        refine aw_aload_2 hX dL_law_449 ?_
        refine aw_aload_0 hX dL_law_450 ?_
        refine aw_iload_3 hX dL_law_451 ?_
        refine aw_iconst hX (v := nI 1) (by decide) dL_law_452 ?_
        first | with_reducible refine aw_iaddN hX dL_law_453 ?_ | refine aw_iadd hX dL_law_453 ?_
        refine aw_sld hX hLX hL31 (by omega) dL_law_454 ?_
        refine cv_X8_due hX ml_L_55 dL_law_455 h2 (Nat.le_of_ble_eq_true rfl) ?_
        first | with_reducible refine aw_icmpeqN hX (tgt := 888) dL_law_458 (by decide) (by omega) (by omega) (fun c_458 => ?_) (fun c_458 => ?_) | refine aw_icmpeq hX (tgt := 888) dL_law_458 (by decide) (fun c_458 => ?_) (fun c_458 => ?_)
        · skip
          exact tail hi9 S2 hrel2
        · exact absurd rfl c_458
      · obtain ⟨r, S1, S2, h1, h2, hrel2⟩ := st_beyond G S hrel 
        refine aw_tabIn hX (x := nI 9) (off := 430) (tgt := 463) dL_law_33 (by decide) (by decide) (by decide) (by decide) ?_
        refine aw_aload_1 hX dL_law_463 ?_
        refine cv_X7_beyond hX ml_L_56 dL_law_464 h1 (Nat.le_of_ble_eq_true rfl) ?_
        refine aw_aload_2 hX dL_law_467 ?_
        refine cv_X8_beyond hX ml_L_59 dL_law_468 h2 (Nat.le_of_ble_eq_true rfl) ?_
        first | with_reducible refine aw_icmpeqN hX (tgt := 888) dL_law_471 (by decide) (by omega) (by omega) (fun c_471 => ?_) (fun c_471 => ?_) | refine aw_icmpeq hX (tgt := 888) dL_law_471 (by decide) (fun c_471 => ?_) (fun c_471 => ?_)
        · skip
          exact tail hi9 S2 hrel2
        · exact absurd rfl c_471
      · obtain ⟨r, S1, S2, h1, h2, hrel2⟩ := st_sweep G S hrel (xs (i + 1))
        refine aw_tabIn hX (x := nI 10) (off := 443) (tgt := 476) dL_law_33 (by decide) (by decide) (by decide) (by decide) ?_
        refine aw_aload_1 hX dL_law_476 ?_
        refine aw_aload_0 hX dL_law_477 ?_
        refine aw_iload_3 hX dL_law_478 ?_
        refine aw_iconst hX (v := nI 1) (by decide) dL_law_479 ?_
        first | with_reducible refine aw_iaddN hX dL_law_480 ?_ | refine aw_iadd hX dL_law_480 ?_
        refine aw_sld hX hLX hL31 (by omega) dL_law_481 ?_
        refine cv_X7_sweep hX ml_L_60 dL_law_482 h1 (Nat.le_of_ble_eq_true rfl) ?_
        refine aw_aload_2 hX dL_law_485 ?_
        refine aw_aload_0 hX dL_law_486 ?_
        refine aw_iload_3 hX dL_law_487 ?_
        refine aw_iconst hX (v := nI 1) (by decide) dL_law_488 ?_
        first | with_reducible refine aw_iaddN hX dL_law_489 ?_ | refine aw_iadd hX dL_law_489 ?_
        refine aw_sld hX hLX hL31 (by omega) dL_law_490 ?_
        refine cv_X8_sweep hX ml_L_63 dL_law_491 h2 (Nat.le_of_ble_eq_true rfl) ?_
        first | with_reducible refine aw_icmpeqN hX (tgt := 888) dL_law_494 (by decide) (by omega) (by omega) (fun c_494 => ?_) (fun c_494 => ?_) | refine aw_icmpeq hX (tgt := 888) dL_law_494 (by decide) (fun c_494 => ?_) (fun c_494 => ?_)
        · skip
          exact tail hi9 S2 hrel2
        · exact absurd rfl c_494
      · obtain ⟨r, S1, S2, h1, h2, hrel2⟩ := st_refuse G S hrel (xs (i + 1))
        refine aw_tabIn hX (x := nI 11) (off := 466) (tgt := 499) dL_law_33 (by decide) (by decide) (by decide) (by decide) ?_
        refine aw_aload_1 hX dL_law_499 ?_
        refine aw_aload_0 hX dL_law_500 ?_
        refine aw_iload_3 hX dL_law_501 ?_
        refine aw_iconst hX (v := nI 1) (by decide) dL_law_502 ?_
        first | with_reducible refine aw_iaddN hX dL_law_503 ?_ | refine aw_iadd hX dL_law_503 ?_
        refine aw_sld hX hLX hL31 (by omega) dL_law_504 ?_
        refine cv_X7_refuse hX ml_L_64 dL_law_505 h1 (Nat.le_of_ble_eq_true rfl) ?_
        refine aw_aload_2 hX dL_law_508 ?_
        refine aw_aload_0 hX dL_law_509 ?_
        refine aw_iload_3 hX dL_law_510 ?_
        refine aw_iconst hX (v := nI 1) (by decide) dL_law_511 ?_
        first | with_reducible refine aw_iaddN hX dL_law_512 ?_ | refine aw_iadd hX dL_law_512 ?_
        refine aw_sld hX hLX hL31 (by omega) dL_law_513 ?_
        refine cv_X8_refuse hX ml_L_67 dL_law_514 h2 (Nat.le_of_ble_eq_true rfl) ?_
        first | with_reducible refine aw_icmpeqN hX (tgt := 888) dL_law_517 (by decide) (by omega) (by omega) (fun c_517 => ?_) (fun c_517 => ?_) | refine aw_icmpeq hX (tgt := 888) dL_law_517 (by decide) (fun c_517 => ?_) (fun c_517 => ?_)
        · skip
          exact tail hi9 S2 hrel2
        · exact absurd rfl c_517
      · by_cases hz : xs (i + 3) = 0
        · obtain ⟨r, S1, S2, h1, h2, hrel2⟩ := st_look G S hrel (xs (i + 1)) (xs (i + 2)) false
          refine aw_tabIn hX (x := nI 12) (off := 489) (tgt := 522) dL_law_33 (by decide) (by decide) (by decide) (by decide) ?_
          refine aw_aload_1 hX dL_law_522 ?_
          refine aw_aload_0 hX dL_law_523 ?_
          refine aw_iload_3 hX dL_law_524 ?_
          refine aw_iconst hX (v := nI 1) (by decide) dL_law_525 ?_
          first | with_reducible refine aw_iaddN hX dL_law_526 ?_ | refine aw_iadd hX dL_law_526 ?_
          refine aw_sld hX hLX hL31 (by omega) dL_law_527 ?_
          refine aw_aload_0 hX dL_law_528 ?_
          refine aw_iload_3 hX dL_law_529 ?_
          refine aw_iconst hX (v := nI 2) (by decide) dL_law_530 ?_
          first | with_reducible refine aw_iaddN hX dL_law_531 ?_ | refine aw_iadd hX dL_law_531 ?_
          refine aw_sld hX hLX hL31 (by omega) dL_law_532 ?_
          refine aw_aload_0 hX dL_law_533 ?_
          refine aw_iload_3 hX dL_law_534 ?_
          refine aw_iconst hX (v := nI 3) (by decide) dL_law_535 ?_
          first | with_reducible refine aw_iaddN hX dL_law_536 ?_ | refine aw_iadd hX dL_law_536 ?_
          refine aw_sld hX hLX hL31 (by omega) dL_law_537 ?_
          first | with_reducible refine aw_ifeqB hX (tgt := 545) dL_law_538 (by decide) (fun c_538 => ?_) (fun c_538 => ?_) | refine aw_ifeq hX (tgt := 545) dL_law_538 (by decide) (fun c_538 => ?_) (fun c_538 => ?_)
          · skip
            refine aw_iconst hX (v := nI 0) (by decide) dL_law_545 ?_
            refine aw_ti (show nI 0 = bI false from rfl) ?_
            refine cv_X7_look hX ml_L_68 dL_law_546 h1 (Nat.le_of_ble_eq_true rfl) ?_
            refine aw_aload_2 hX dL_law_549 ?_
            refine aw_aload_0 hX dL_law_550 ?_
            refine aw_iload_3 hX dL_law_551 ?_
            refine aw_iconst hX (v := nI 1) (by decide) dL_law_552 ?_
            first | with_reducible refine aw_iaddN hX dL_law_553 ?_ | refine aw_iadd hX dL_law_553 ?_
            refine aw_sld hX hLX hL31 (by omega) dL_law_554 ?_
            refine aw_aload_0 hX dL_law_555 ?_
            refine aw_iload_3 hX dL_law_556 ?_
            refine aw_iconst hX (v := nI 2) (by decide) dL_law_557 ?_
            first | with_reducible refine aw_iaddN hX dL_law_558 ?_ | refine aw_iadd hX dL_law_558 ?_
            refine aw_sld hX hLX hL31 (by omega) dL_law_559 ?_
            refine aw_aload_0 hX dL_law_560 ?_
            refine aw_iload_3 hX dL_law_561 ?_
            refine aw_iconst hX (v := nI 3) (by decide) dL_law_562 ?_
            first | with_reducible refine aw_iaddN hX dL_law_563 ?_ | refine aw_iadd hX dL_law_563 ?_
            refine aw_sld hX hLX hL31 (by omega) dL_law_564 ?_
            first | with_reducible refine aw_ifeqB hX (tgt := 572) dL_law_565 (by decide) (fun c_565 => ?_) (fun c_565 => ?_) | refine aw_ifeq hX (tgt := 572) dL_law_565 (by decide) (fun c_565 => ?_) (fun c_565 => ?_)
            · skip
              refine aw_iconst hX (v := nI 0) (by decide) dL_law_572 ?_
              refine aw_ti (show nI 0 = bI false from rfl) ?_
              refine cv_X8_look hX ml_L_72 dL_law_573 h2 (Nat.le_of_ble_eq_true rfl) ?_
              first | with_reducible refine aw_icmpeqN hX (tgt := 888) dL_law_576 (by decide) (by omega) (by omega) (fun c_576 => ?_) (fun c_576 => ?_) | refine aw_icmpeq hX (tgt := 888) dL_law_576 (by decide) (fun c_576 => ?_) (fun c_576 => ?_)
              · skip
                exact tail hi9 S2 hrel2
              · exact absurd rfl c_576
            · exact absurd hz c_565
          · exact absurd hz c_538
        · obtain ⟨r, S1, S2, h1, h2, hrel2⟩ := st_look G S hrel (xs (i + 1)) (xs (i + 2)) true
          refine aw_tabIn hX (x := nI 12) (off := 489) (tgt := 522) dL_law_33 (by decide) (by decide) (by decide) (by decide) ?_
          refine aw_aload_1 hX dL_law_522 ?_
          refine aw_aload_0 hX dL_law_523 ?_
          refine aw_iload_3 hX dL_law_524 ?_
          refine aw_iconst hX (v := nI 1) (by decide) dL_law_525 ?_
          first | with_reducible refine aw_iaddN hX dL_law_526 ?_ | refine aw_iadd hX dL_law_526 ?_
          refine aw_sld hX hLX hL31 (by omega) dL_law_527 ?_
          refine aw_aload_0 hX dL_law_528 ?_
          refine aw_iload_3 hX dL_law_529 ?_
          refine aw_iconst hX (v := nI 2) (by decide) dL_law_530 ?_
          first | with_reducible refine aw_iaddN hX dL_law_531 ?_ | refine aw_iadd hX dL_law_531 ?_
          refine aw_sld hX hLX hL31 (by omega) dL_law_532 ?_
          refine aw_aload_0 hX dL_law_533 ?_
          refine aw_iload_3 hX dL_law_534 ?_
          refine aw_iconst hX (v := nI 3) (by decide) dL_law_535 ?_
          first | with_reducible refine aw_iaddN hX dL_law_536 ?_ | refine aw_iadd hX dL_law_536 ?_
          refine aw_sld hX hLX hL31 (by omega) dL_law_537 ?_
          first | with_reducible refine aw_ifeqB hX (tgt := 545) dL_law_538 (by decide) (fun c_538 => ?_) (fun c_538 => ?_) | refine aw_ifeq hX (tgt := 545) dL_law_538 (by decide) (fun c_538 => ?_) (fun c_538 => ?_)
          · exact absurd c_538 hz
          · skip
            refine aw_iconst hX (v := nI 1) (by decide) dL_law_541 ?_
            refine aw_ti (show nI 1 = bI true from rfl) ?_
            refine aw_goto hX (tgt := 546) dL_law_542 (by decide) ?_
            refine cv_X7_look hX ml_L_68 dL_law_546 h1 (Nat.le_of_ble_eq_true rfl) ?_
            refine aw_aload_2 hX dL_law_549 ?_
            refine aw_aload_0 hX dL_law_550 ?_
            refine aw_iload_3 hX dL_law_551 ?_
            refine aw_iconst hX (v := nI 1) (by decide) dL_law_552 ?_
            first | with_reducible refine aw_iaddN hX dL_law_553 ?_ | refine aw_iadd hX dL_law_553 ?_
            refine aw_sld hX hLX hL31 (by omega) dL_law_554 ?_
            refine aw_aload_0 hX dL_law_555 ?_
            refine aw_iload_3 hX dL_law_556 ?_
            refine aw_iconst hX (v := nI 2) (by decide) dL_law_557 ?_
            first | with_reducible refine aw_iaddN hX dL_law_558 ?_ | refine aw_iadd hX dL_law_558 ?_
            refine aw_sld hX hLX hL31 (by omega) dL_law_559 ?_
            refine aw_aload_0 hX dL_law_560 ?_
            refine aw_iload_3 hX dL_law_561 ?_
            refine aw_iconst hX (v := nI 3) (by decide) dL_law_562 ?_
            first | with_reducible refine aw_iaddN hX dL_law_563 ?_ | refine aw_iadd hX dL_law_563 ?_
            refine aw_sld hX hLX hL31 (by omega) dL_law_564 ?_
            first | with_reducible refine aw_ifeqB hX (tgt := 572) dL_law_565 (by decide) (fun c_565 => ?_) (fun c_565 => ?_) | refine aw_ifeq hX (tgt := 572) dL_law_565 (by decide) (fun c_565 => ?_) (fun c_565 => ?_)
            · exact absurd c_565 hz
            · skip
              refine aw_iconst hX (v := nI 1) (by decide) dL_law_568 ?_
              refine aw_ti (show nI 1 = bI true from rfl) ?_
              refine aw_goto hX (tgt := 573) dL_law_569 (by decide) ?_
              refine cv_X8_look hX ml_L_72 dL_law_573 h2 (Nat.le_of_ble_eq_true rfl) ?_
              first | with_reducible refine aw_icmpeqN hX (tgt := 888) dL_law_576 (by decide) (by omega) (by omega) (fun c_576 => ?_) (fun c_576 => ?_) | refine aw_icmpeq hX (tgt := 888) dL_law_576 (by decide) (fun c_576 => ?_) (fun c_576 => ?_)
              · skip
                exact tail hi9 S2 hrel2
              · exact absurd rfl c_576
      · obtain ⟨r, S1, S2, h1, h2, hrel2⟩ := st_known G S hrel (xs (i + 1)) (xs (i + 2))
        refine aw_tabIn hX (x := nI 13) (off := 548) (tgt := 581) dL_law_33 (by decide) (by decide) (by decide) (by decide) ?_
        refine aw_aload_1 hX dL_law_581 ?_
        refine aw_aload_0 hX dL_law_582 ?_
        refine aw_iload_3 hX dL_law_583 ?_
        refine aw_iconst hX (v := nI 1) (by decide) dL_law_584 ?_
        first | with_reducible refine aw_iaddN hX dL_law_585 ?_ | refine aw_iadd hX dL_law_585 ?_
        refine aw_sld hX hLX hL31 (by omega) dL_law_586 ?_
        refine aw_aload_0 hX dL_law_587 ?_
        refine aw_iload_3 hX dL_law_588 ?_
        refine aw_iconst hX (v := nI 2) (by decide) dL_law_589 ?_
        first | with_reducible refine aw_iaddN hX dL_law_590 ?_ | refine aw_iadd hX dL_law_590 ?_
        refine aw_sld hX hLX hL31 (by omega) dL_law_591 ?_
        refine cv_X7_known hX ml_L_73 dL_law_592 h1 (Nat.le_of_ble_eq_true rfl) ?_
        refine aw_aload_2 hX dL_law_595 ?_
        refine aw_aload_0 hX dL_law_596 ?_
        refine aw_iload_3 hX dL_law_597 ?_
        refine aw_iconst hX (v := nI 1) (by decide) dL_law_598 ?_
        first | with_reducible refine aw_iaddN hX dL_law_599 ?_ | refine aw_iadd hX dL_law_599 ?_
        refine aw_sld hX hLX hL31 (by omega) dL_law_600 ?_
        refine aw_aload_0 hX dL_law_601 ?_
        refine aw_iload_3 hX dL_law_602 ?_
        refine aw_iconst hX (v := nI 2) (by decide) dL_law_603 ?_
        first | with_reducible refine aw_iaddN hX dL_law_604 ?_ | refine aw_iadd hX dL_law_604 ?_
        refine aw_sld hX hLX hL31 (by omega) dL_law_605 ?_
        refine cv_X8_known hX ml_L_76 dL_law_606 h2 (Nat.le_of_ble_eq_true rfl) ?_
        first | with_reducible refine aw_icmpeqN hX (tgt := 888) dL_law_609 (by decide) (by omega) (by omega) (fun c_609 => ?_) (fun c_609 => ?_) | refine aw_icmpeq hX (tgt := 888) dL_law_609 (by decide) (fun c_609 => ?_) (fun c_609 => ?_)
        · skip
          exact tail hi9 S2 hrel2
        · exact absurd rfl c_609
      · obtain ⟨r, S1, S2, h1, h2, hrel2⟩ := st_fire G S hrel (xs (i + 1)) (xs (i + 2))
        refine aw_tabIn hX (x := nI 14) (off := 581) (tgt := 614) dL_law_33 (by decide) (by decide) (by decide) (by decide) ?_
        refine aw_aload_1 hX dL_law_614 ?_
        refine aw_aload_0 hX dL_law_615 ?_
        refine aw_iload_3 hX dL_law_616 ?_
        refine aw_iconst hX (v := nI 1) (by decide) dL_law_617 ?_
        first | with_reducible refine aw_iaddN hX dL_law_618 ?_ | refine aw_iadd hX dL_law_618 ?_
        refine aw_sld hX hLX hL31 (by omega) dL_law_619 ?_
        refine aw_aload_0 hX dL_law_620 ?_
        refine aw_iload_3 hX dL_law_621 ?_
        refine aw_iconst hX (v := nI 2) (by decide) dL_law_622 ?_
        first | with_reducible refine aw_iaddN hX dL_law_623 ?_ | refine aw_iadd hX dL_law_623 ?_
        refine aw_sld hX hLX hL31 (by omega) dL_law_624 ?_
        refine cv_X7_fire hX ml_L_77 dL_law_625 h1 (Nat.le_of_ble_eq_true rfl) ?_
        refine aw_aload_2 hX dL_law_628 ?_
        refine aw_aload_0 hX dL_law_629 ?_
        refine aw_iload_3 hX dL_law_630 ?_
        refine aw_iconst hX (v := nI 1) (by decide) dL_law_631 ?_
        first | with_reducible refine aw_iaddN hX dL_law_632 ?_ | refine aw_iadd hX dL_law_632 ?_
        refine aw_sld hX hLX hL31 (by omega) dL_law_633 ?_
        refine aw_aload_0 hX dL_law_634 ?_
        refine aw_iload_3 hX dL_law_635 ?_
        refine aw_iconst hX (v := nI 2) (by decide) dL_law_636 ?_
        first | with_reducible refine aw_iaddN hX dL_law_637 ?_ | refine aw_iadd hX dL_law_637 ?_
        refine aw_sld hX hLX hL31 (by omega) dL_law_638 ?_
        refine cv_X8_fire hX ml_L_80 dL_law_639 h2 (Nat.le_of_ble_eq_true rfl) ?_
        first | with_reducible refine aw_icmpeqN hX (tgt := 888) dL_law_642 (by decide) (by omega) (by omega) (fun c_642 => ?_) (fun c_642 => ?_) | refine aw_icmpeq hX (tgt := 888) dL_law_642 (by decide) (fun c_642 => ?_) (fun c_642 => ?_)
        · skip
          exact tail hi9 S2 hrel2
        · exact absurd rfl c_642
      · obtain ⟨r, S1, S2, h1, h2, hrel2⟩ := st_back G S hrel (xs (i + 1)) (xs (i + 2))
        refine aw_tabIn hX (x := nI 15) (off := 614) (tgt := 647) dL_law_33 (by decide) (by decide) (by decide) (by decide) ?_
        refine aw_aload_1 hX dL_law_647 ?_
        refine aw_aload_0 hX dL_law_648 ?_
        refine aw_iload_3 hX dL_law_649 ?_
        refine aw_iconst hX (v := nI 1) (by decide) dL_law_650 ?_
        first | with_reducible refine aw_iaddN hX dL_law_651 ?_ | refine aw_iadd hX dL_law_651 ?_
        refine aw_sld hX hLX hL31 (by omega) dL_law_652 ?_
        refine aw_aload_0 hX dL_law_653 ?_
        refine aw_iload_3 hX dL_law_654 ?_
        refine aw_iconst hX (v := nI 2) (by decide) dL_law_655 ?_
        first | with_reducible refine aw_iaddN hX dL_law_656 ?_ | refine aw_iadd hX dL_law_656 ?_
        refine aw_sld hX hLX hL31 (by omega) dL_law_657 ?_
        refine cv_X7_back hX ml_L_81 dL_law_658 h1 (Nat.le_of_ble_eq_true rfl) ?_
        refine aw_aload_2 hX dL_law_661 ?_
        refine aw_aload_0 hX dL_law_662 ?_
        refine aw_iload_3 hX dL_law_663 ?_
        refine aw_iconst hX (v := nI 1) (by decide) dL_law_664 ?_
        first | with_reducible refine aw_iaddN hX dL_law_665 ?_ | refine aw_iadd hX dL_law_665 ?_
        refine aw_sld hX hLX hL31 (by omega) dL_law_666 ?_
        refine aw_aload_0 hX dL_law_667 ?_
        refine aw_iload_3 hX dL_law_668 ?_
        refine aw_iconst hX (v := nI 2) (by decide) dL_law_669 ?_
        first | with_reducible refine aw_iaddN hX dL_law_670 ?_ | refine aw_iadd hX dL_law_670 ?_
        refine aw_sld hX hLX hL31 (by omega) dL_law_671 ?_
        refine cv_X8_back hX ml_L_84 dL_law_672 h2 (Nat.le_of_ble_eq_true rfl) ?_
        first | with_reducible refine aw_icmpeqN hX (tgt := 888) dL_law_675 (by decide) (by omega) (by omega) (fun c_675 => ?_) (fun c_675 => ?_) | refine aw_icmpeq hX (tgt := 888) dL_law_675 (by decide) (fun c_675 => ?_) (fun c_675 => ?_)
        · skip
          exact tail hi9 S2 hrel2
        · exact absurd rfl c_675
      · obtain ⟨r, S1, S2, h1, h2, hrel2⟩ := st_rate G S hrel (xs (i + 1))
        refine aw_tabIn hX (x := nI 16) (off := 647) (tgt := 680) dL_law_33 (by decide) (by decide) (by decide) (by decide) ?_
        refine aw_aload_1 hX dL_law_680 ?_
        refine aw_aload_0 hX dL_law_681 ?_
        refine aw_iload_3 hX dL_law_682 ?_
        refine aw_iconst hX (v := nI 1) (by decide) dL_law_683 ?_
        first | with_reducible refine aw_iaddN hX dL_law_684 ?_ | refine aw_iadd hX dL_law_684 ?_
        refine aw_sld hX hLX hL31 (by omega) dL_law_685 ?_
        refine cv_X7_rate hX ml_L_85 dL_law_686 h1 (Nat.le_of_ble_eq_true rfl) ?_
        refine aw_aload_2 hX dL_law_689 ?_
        refine aw_aload_0 hX dL_law_690 ?_
        refine aw_iload_3 hX dL_law_691 ?_
        refine aw_iconst hX (v := nI 1) (by decide) dL_law_692 ?_
        first | with_reducible refine aw_iaddN hX dL_law_693 ?_ | refine aw_iadd hX dL_law_693 ?_
        refine aw_sld hX hLX hL31 (by omega) dL_law_694 ?_
        refine cv_X8_rate hX ml_L_88 dL_law_695 h2 (Nat.le_of_ble_eq_true rfl) ?_
        first | with_reducible refine aw_icmpeqN hX (tgt := 888) dL_law_698 (by decide) (by omega) (by omega) (fun c_698 => ?_) (fun c_698 => ?_) | refine aw_icmpeq hX (tgt := 888) dL_law_698 (by decide) (fun c_698 => ?_) (fun c_698 => ?_)
        · skip
          exact tail hi9 S2 hrel2
        · exact absurd rfl c_698
      · by_cases hz : xs (i + 2) = 0
        · obtain ⟨r, S1, S2, h1, h2, hrel2⟩ := st_ill G S hrel (xs (i + 1)) false
          refine aw_tabIn hX (x := nI 17) (off := 670) (tgt := 703) dL_law_33 (by decide) (by decide) (by decide) (by decide) ?_
          refine aw_aload_1 hX dL_law_703 ?_
          refine aw_aload_0 hX dL_law_704 ?_
          refine aw_iload_3 hX dL_law_705 ?_
          refine aw_iconst hX (v := nI 1) (by decide) dL_law_706 ?_
          first | with_reducible refine aw_iaddN hX dL_law_707 ?_ | refine aw_iadd hX dL_law_707 ?_
          refine aw_sld hX hLX hL31 (by omega) dL_law_708 ?_
          refine aw_aload_0 hX dL_law_709 ?_
          refine aw_iload_3 hX dL_law_710 ?_
          refine aw_iconst hX (v := nI 2) (by decide) dL_law_711 ?_
          first | with_reducible refine aw_iaddN hX dL_law_712 ?_ | refine aw_iadd hX dL_law_712 ?_
          refine aw_sld hX hLX hL31 (by omega) dL_law_713 ?_
          first | with_reducible refine aw_ifeqB hX (tgt := 721) dL_law_714 (by decide) (fun c_714 => ?_) (fun c_714 => ?_) | refine aw_ifeq hX (tgt := 721) dL_law_714 (by decide) (fun c_714 => ?_) (fun c_714 => ?_)
          · skip
            refine aw_iconst hX (v := nI 0) (by decide) dL_law_721 ?_
            refine aw_ti (show nI 0 = bI false from rfl) ?_
            refine cv_X7_ill hX ml_L_89 dL_law_722 h1 (Nat.le_of_ble_eq_true rfl) ?_
            refine aw_aload_2 hX dL_law_725 ?_
            refine aw_aload_0 hX dL_law_726 ?_
            refine aw_iload_3 hX dL_law_727 ?_
            refine aw_iconst hX (v := nI 1) (by decide) dL_law_728 ?_
            first | with_reducible refine aw_iaddN hX dL_law_729 ?_ | refine aw_iadd hX dL_law_729 ?_
            refine aw_sld hX hLX hL31 (by omega) dL_law_730 ?_
            refine aw_aload_0 hX dL_law_731 ?_
            refine aw_iload_3 hX dL_law_732 ?_
            refine aw_iconst hX (v := nI 2) (by decide) dL_law_733 ?_
            first | with_reducible refine aw_iaddN hX dL_law_734 ?_ | refine aw_iadd hX dL_law_734 ?_
            refine aw_sld hX hLX hL31 (by omega) dL_law_735 ?_
            first | with_reducible refine aw_ifeqB hX (tgt := 743) dL_law_736 (by decide) (fun c_736 => ?_) (fun c_736 => ?_) | refine aw_ifeq hX (tgt := 743) dL_law_736 (by decide) (fun c_736 => ?_) (fun c_736 => ?_)
            · skip
              refine aw_iconst hX (v := nI 0) (by decide) dL_law_743 ?_
              refine aw_ti (show nI 0 = bI false from rfl) ?_
              refine cv_X8_ill hX ml_L_93 dL_law_744 h2 (Nat.le_of_ble_eq_true rfl) ?_
              first | with_reducible refine aw_icmpeqN hX (tgt := 888) dL_law_747 (by decide) (by omega) (by omega) (fun c_747 => ?_) (fun c_747 => ?_) | refine aw_icmpeq hX (tgt := 888) dL_law_747 (by decide) (fun c_747 => ?_) (fun c_747 => ?_)
              · skip
                exact tail hi9 S2 hrel2
              · exact absurd rfl c_747
            · exact absurd hz c_736
          · exact absurd hz c_714
        · obtain ⟨r, S1, S2, h1, h2, hrel2⟩ := st_ill G S hrel (xs (i + 1)) true
          refine aw_tabIn hX (x := nI 17) (off := 670) (tgt := 703) dL_law_33 (by decide) (by decide) (by decide) (by decide) ?_
          refine aw_aload_1 hX dL_law_703 ?_
          refine aw_aload_0 hX dL_law_704 ?_
          refine aw_iload_3 hX dL_law_705 ?_
          refine aw_iconst hX (v := nI 1) (by decide) dL_law_706 ?_
          first | with_reducible refine aw_iaddN hX dL_law_707 ?_ | refine aw_iadd hX dL_law_707 ?_
          refine aw_sld hX hLX hL31 (by omega) dL_law_708 ?_
          refine aw_aload_0 hX dL_law_709 ?_
          refine aw_iload_3 hX dL_law_710 ?_
          refine aw_iconst hX (v := nI 2) (by decide) dL_law_711 ?_
          first | with_reducible refine aw_iaddN hX dL_law_712 ?_ | refine aw_iadd hX dL_law_712 ?_
          refine aw_sld hX hLX hL31 (by omega) dL_law_713 ?_
          first | with_reducible refine aw_ifeqB hX (tgt := 721) dL_law_714 (by decide) (fun c_714 => ?_) (fun c_714 => ?_) | refine aw_ifeq hX (tgt := 721) dL_law_714 (by decide) (fun c_714 => ?_) (fun c_714 => ?_)
          · exact absurd c_714 hz
          · skip
            refine aw_iconst hX (v := nI 1) (by decide) dL_law_717 ?_
            refine aw_ti (show nI 1 = bI true from rfl) ?_
            refine aw_goto hX (tgt := 722) dL_law_718 (by decide) ?_
            refine cv_X7_ill hX ml_L_89 dL_law_722 h1 (Nat.le_of_ble_eq_true rfl) ?_
            refine aw_aload_2 hX dL_law_725 ?_
            refine aw_aload_0 hX dL_law_726 ?_
            refine aw_iload_3 hX dL_law_727 ?_
            refine aw_iconst hX (v := nI 1) (by decide) dL_law_728 ?_
            first | with_reducible refine aw_iaddN hX dL_law_729 ?_ | refine aw_iadd hX dL_law_729 ?_
            refine aw_sld hX hLX hL31 (by omega) dL_law_730 ?_
            refine aw_aload_0 hX dL_law_731 ?_
            refine aw_iload_3 hX dL_law_732 ?_
            refine aw_iconst hX (v := nI 2) (by decide) dL_law_733 ?_
            first | with_reducible refine aw_iaddN hX dL_law_734 ?_ | refine aw_iadd hX dL_law_734 ?_
            refine aw_sld hX hLX hL31 (by omega) dL_law_735 ?_
            first | with_reducible refine aw_ifeqB hX (tgt := 743) dL_law_736 (by decide) (fun c_736 => ?_) (fun c_736 => ?_) | refine aw_ifeq hX (tgt := 743) dL_law_736 (by decide) (fun c_736 => ?_) (fun c_736 => ?_)
            · exact absurd c_736 hz
            · skip
              refine aw_iconst hX (v := nI 1) (by decide) dL_law_739 ?_
              refine aw_ti (show nI 1 = bI true from rfl) ?_
              refine aw_goto hX (tgt := 744) dL_law_740 (by decide) ?_
              refine cv_X8_ill hX ml_L_93 dL_law_744 h2 (Nat.le_of_ble_eq_true rfl) ?_
              first | with_reducible refine aw_icmpeqN hX (tgt := 888) dL_law_747 (by decide) (by omega) (by omega) (fun c_747 => ?_) (fun c_747 => ?_) | refine aw_icmpeq hX (tgt := 888) dL_law_747 (by decide) (fun c_747 => ?_) (fun c_747 => ?_)
              · skip
                exact tail hi9 S2 hrel2
              · exact absurd rfl c_747
      · obtain ⟨r, S1, S2, h1, h2, hrel2⟩ := st_fees G S hrel (xs (i + 1)) (xs (i + 2))
        refine aw_tabIn hX (x := nI 18) (off := 719) (tgt := 752) dL_law_33 (by decide) (by decide) (by decide) (by decide) ?_
        refine aw_aload_1 hX dL_law_752 ?_
        refine aw_aload_0 hX dL_law_753 ?_
        refine aw_iload_3 hX dL_law_754 ?_
        refine aw_iconst hX (v := nI 1) (by decide) dL_law_755 ?_
        first | with_reducible refine aw_iaddN hX dL_law_756 ?_ | refine aw_iadd hX dL_law_756 ?_
        refine aw_sld hX hLX hL31 (by omega) dL_law_757 ?_
        refine aw_aload_0 hX dL_law_758 ?_
        refine aw_iload_3 hX dL_law_759 ?_
        refine aw_iconst hX (v := nI 2) (by decide) dL_law_760 ?_
        first | with_reducible refine aw_iaddN hX dL_law_761 ?_ | refine aw_iadd hX dL_law_761 ?_
        refine aw_sld hX hLX hL31 (by omega) dL_law_762 ?_
        refine cv_X7_fees hX ml_L_94 dL_law_763 h1 (Nat.le_of_ble_eq_true rfl) ?_
        refine aw_aload_2 hX dL_law_766 ?_
        refine aw_aload_0 hX dL_law_767 ?_
        refine aw_iload_3 hX dL_law_768 ?_
        refine aw_iconst hX (v := nI 1) (by decide) dL_law_769 ?_
        first | with_reducible refine aw_iaddN hX dL_law_770 ?_ | refine aw_iadd hX dL_law_770 ?_
        refine aw_sld hX hLX hL31 (by omega) dL_law_771 ?_
        refine aw_aload_0 hX dL_law_772 ?_
        refine aw_iload_3 hX dL_law_773 ?_
        refine aw_iconst hX (v := nI 2) (by decide) dL_law_774 ?_
        first | with_reducible refine aw_iaddN hX dL_law_775 ?_ | refine aw_iadd hX dL_law_775 ?_
        refine aw_sld hX hLX hL31 (by omega) dL_law_776 ?_
        refine cv_X8_fees hX ml_L_97 dL_law_777 h2 (Nat.le_of_ble_eq_true rfl) ?_
        first | with_reducible refine aw_icmpeqN hX (tgt := 888) dL_law_780 (by decide) (by omega) (by omega) (fun c_780 => ?_) (fun c_780 => ?_) | refine aw_icmpeq hX (tgt := 888) dL_law_780 (by decide) (fun c_780 => ?_) (fun c_780 => ?_)
        · skip
          exact tail hi9 S2 hrel2
        · exact absurd rfl c_780
      · obtain ⟨r, S1, S2, h1, h2, hrel2⟩ := hRound G S hrel (xs (i + 1)) (xs (i + 2)) (xs (i + 3))
        refine aw_tabIn hX (x := nI 19) (off := 752) (tgt := 785) dL_law_33 (by decide) (by decide) (by decide) (by decide) ?_
        refine aw_aload_1 hX dL_law_785 ?_
        refine aw_aload_0 hX dL_law_786 ?_
        refine aw_iload_3 hX dL_law_787 ?_
        refine aw_iconst hX (v := nI 1) (by decide) dL_law_788 ?_
        first | with_reducible refine aw_iaddN hX dL_law_789 ?_ | refine aw_iadd hX dL_law_789 ?_
        refine aw_sld hX hLX hL31 (by omega) dL_law_790 ?_
        refine aw_aload_0 hX dL_law_791 ?_
        refine aw_iload_3 hX dL_law_792 ?_
        refine aw_iconst hX (v := nI 2) (by decide) dL_law_793 ?_
        first | with_reducible refine aw_iaddN hX dL_law_794 ?_ | refine aw_iadd hX dL_law_794 ?_
        refine aw_sld hX hLX hL31 (by omega) dL_law_795 ?_
        refine aw_aload_0 hX dL_law_796 ?_
        refine aw_iload_3 hX dL_law_797 ?_
        refine aw_iconst hX (v := nI 3) (by decide) dL_law_798 ?_
        first | with_reducible refine aw_iaddN hX dL_law_799 ?_ | refine aw_iadd hX dL_law_799 ?_
        refine aw_sld hX hLX hL31 (by omega) dL_law_800 ?_
        refine cv_X7_round hX ml_L_98 dL_law_801 h1 (Nat.le_of_ble_eq_true rfl) ?_
        refine aw_aload_2 hX dL_law_804 ?_
        refine aw_aload_0 hX dL_law_805 ?_
        refine aw_iload_3 hX dL_law_806 ?_
        refine aw_iconst hX (v := nI 1) (by decide) dL_law_807 ?_
        first | with_reducible refine aw_iaddN hX dL_law_808 ?_ | refine aw_iadd hX dL_law_808 ?_
        refine aw_sld hX hLX hL31 (by omega) dL_law_809 ?_
        refine aw_aload_0 hX dL_law_810 ?_
        refine aw_iload_3 hX dL_law_811 ?_
        refine aw_iconst hX (v := nI 2) (by decide) dL_law_812 ?_
        first | with_reducible refine aw_iaddN hX dL_law_813 ?_ | refine aw_iadd hX dL_law_813 ?_
        refine aw_sld hX hLX hL31 (by omega) dL_law_814 ?_
        refine aw_aload_0 hX dL_law_815 ?_
        refine aw_iload_3 hX dL_law_816 ?_
        refine aw_iconst hX (v := nI 3) (by decide) dL_law_817 ?_
        first | with_reducible refine aw_iaddN hX dL_law_818 ?_ | refine aw_iadd hX dL_law_818 ?_
        refine aw_sld hX hLX hL31 (by omega) dL_law_819 ?_
        refine cv_X8_round hX ml_L_102 dL_law_820 h2 (Nat.le_of_ble_eq_true rfl) ?_
        first | with_reducible refine aw_icmpeqN hX (tgt := 888) dL_law_823 (by decide) (by omega) (by omega) (fun c_823 => ?_) (fun c_823 => ?_) | refine aw_icmpeq hX (tgt := 888) dL_law_823 (by decide) (fun c_823 => ?_) (fun c_823 => ?_)
        · skip
          exact tail hi9 S2 hrel2
        · exact absurd rfl c_823
      · obtain ⟨r, S1, S2, h1, h2, hrel2⟩ := st_at G S hrel (xs (i + 1))
        refine aw_tabIn hX (x := nI 20) (off := 795) (tgt := 828) dL_law_33 (by decide) (by decide) (by decide) (by decide) ?_
        refine aw_aload_1 hX dL_law_828 ?_
        refine aw_aload_0 hX dL_law_829 ?_
        refine aw_iload_3 hX dL_law_830 ?_
        refine aw_iconst hX (v := nI 1) (by decide) dL_law_831 ?_
        first | with_reducible refine aw_iaddN hX dL_law_832 ?_ | refine aw_iadd hX dL_law_832 ?_
        refine aw_sld hX hLX hL31 (by omega) dL_law_833 ?_
        refine cv_X7_at hX ml_L_103 dL_law_834 h1 (Nat.le_of_ble_eq_true rfl) ?_
        refine aw_aload_2 hX dL_law_837 ?_
        refine aw_aload_0 hX dL_law_838 ?_
        refine aw_iload_3 hX dL_law_839 ?_
        refine aw_iconst hX (v := nI 1) (by decide) dL_law_840 ?_
        first | with_reducible refine aw_iaddN hX dL_law_841 ?_ | refine aw_iadd hX dL_law_841 ?_
        refine aw_sld hX hLX hL31 (by omega) dL_law_842 ?_
        refine cv_X8_at hX ml_L_106 dL_law_843 h2 (Nat.le_of_ble_eq_true rfl) ?_
        first | with_reducible refine aw_icmpeqN hX (tgt := 888) dL_law_846 (by decide) (by omega) (by omega) (fun c_846 => ?_) (fun c_846 => ?_) | refine aw_icmpeq hX (tgt := 888) dL_law_846 (by decide) (fun c_846 => ?_) (fun c_846 => ?_)
        · skip
          exact tail hi9 S2 hrel2
        · exact absurd rfl c_846
      · obtain ⟨r, S1, S2, h1, h2, hrel2⟩ := st_count G S hrel (xs (i + 1))
        refine aw_tabIn hX (x := nI 21) (off := 818) (tgt := 851) dL_law_33 (by decide) (by decide) (by decide) (by decide) ?_
        refine aw_aload_1 hX dL_law_851 ?_
        refine aw_aload_0 hX dL_law_852 ?_
        refine aw_iload_3 hX dL_law_853 ?_
        refine aw_iconst hX (v := nI 1) (by decide) dL_law_854 ?_
        first | with_reducible refine aw_iaddN hX dL_law_855 ?_ | refine aw_iadd hX dL_law_855 ?_
        refine aw_sld hX hLX hL31 (by omega) dL_law_856 ?_
        refine cv_X7_count hX ml_L_107 dL_law_857 h1 (Nat.le_of_ble_eq_true rfl) ?_
        refine aw_aload_2 hX dL_law_860 ?_
        refine aw_aload_0 hX dL_law_861 ?_
        refine aw_iload_3 hX dL_law_862 ?_
        refine aw_iconst hX (v := nI 1) (by decide) dL_law_863 ?_
        first | with_reducible refine aw_iaddN hX dL_law_864 ?_ | refine aw_iadd hX dL_law_864 ?_
        refine aw_sld hX hLX hL31 (by omega) dL_law_865 ?_
        refine cv_X8_count hX ml_L_110 dL_law_866 h2 (Nat.le_of_ble_eq_true rfl) ?_
        first | with_reducible refine aw_icmpeqN hX (tgt := 888) dL_law_869 (by decide) (by omega) (by omega) (fun c_869 => ?_) (fun c_869 => ?_) | refine aw_icmpeq hX (tgt := 888) dL_law_869 (by decide) (fun c_869 => ?_) (fun c_869 => ?_)
        · skip
          exact tail hi9 S2 hrel2
        · exact absurd rfl c_869
      · obtain ⟨r, S1, S2, h1, h2, hrel2⟩ := st_trace G S hrel 
        refine aw_tabIn hX (x := nI 22) (off := 841) (tgt := 874) dL_law_33 (by decide) (by decide) (by decide) (by decide) ?_
        refine aw_aload_1 hX dL_law_874 ?_
        refine cv_X7_trace hX ml_L_111 dL_law_875 h1 (Nat.le_of_ble_eq_true rfl) ?_
        refine aw_aload_2 hX dL_law_878 ?_
        refine cv_X8_trace hX ml_L_115 dL_law_879 h2 (Nat.le_of_ble_eq_true rfl) ?_
        refine aw_lcmp hX dL_law_882 ?_
        first | with_reducible refine aw_ifeqB hX (tgt := 888) dL_law_883 (by decide) (fun c_883 => ?_) (fun c_883 => ?_) | refine aw_ifeq hX (tgt := 888) dL_law_883 (by decide) (fun c_883 => ?_) (fun c_883 => ?_)
        · skip
          exact tail hi9 S2 hrel2
        · exact absurd (lg_self _) c_883
      · refine aw_tabOut hX (tgt := 888) dL_law_33 (Or.inr (by rw [nI_toInt (by omega)]; omega)) (by decide) ?_
        exact tail hi9 S hrel
