/-! reading the draft: the reference's own words -/
def isDM (S : St) (a : Nat) : Bool := decide (a < S.1 15) && decide (nI 48 ≤ S.2.1 46 a) && decide (S.2.1 46 a ≤ nI 57)
def ByM (S : St) : Prop := ∀ i, S.2.1 46 i = nI (tn (S.2.1 46 i)) ∧ tn (S.2.1 46 i) < 256
theorem isDM_of {S : St} {a : Nat} (hb : ByM S) (h : isDM S a = true) : a < S.1 15 ∧ 48 ≤ tn (S.2.1 46 a) ∧ tn (S.2.1 46 a) ≤ 57 := by
  simp only [isDM, Bool.and_eq_true, decide_eq_true_eq] at h
  obtain ⟨⟨h1, h2⟩, h3⟩ := h
  have := hb a
  rw [this.1] at h2 h3
  exact ⟨h1, (nI_leI (by decide) (by omega)).mp h2, (nI_leI (by omega) (by decide)).mp h3⟩
def smM (S : St) (m : Nat) : Nat → Nat → Nat → Bool × Nat × Nat
  | 0, v, a => (true, v, a)
  | k + 1, v, a => if isDM S a = true then (if 10 * v + tn (S.2.1 46 a) - 48 ≤ m ∧ 10 ≤ 10 * v + tn (S.2.1 46 a) - 48 then smM S m k (10 * v + tn (S.2.1 46 a) - 48) (a + 1) else (false, 10 * v + tn (S.2.1 46 a) - 48, a)) else (true, v, a)
def iaM (S : St) (n kd v fr : Nat) : St := sA (sA (sA S 49 n (nI kd)) 50 n (nI v)) 51 n (nI fr)
def kdM (x : Int32) : Nat := if x = nI 103 then 0 else if x = nI 119 then 1 else if x = nI 99 then 2 else if x = nI 64 then 3 else if x = nI 32 then 4 else 5
def moM (kd : Nat) : Nat := if kd = 3 then 500 else 200
def nuM (S : St) (kd a : Nat) : Bool × Nat × Nat := if isDM S a = true ∧ ¬ (kd < 3 ∧ S.2.1 46 a = nI 48) then smM S (moM kd) 60 (tn (S.2.1 46 a) - 48) (a + 1) else (false, 0, a)
def rdM : Nat → St → Nat → Nat → Nat → Int32 × St
  | 0, S, n, _, _ => (-9, sN S 17 n)
  | k + 1, S, n, fr, a => if S.1 15 ≤ a then (-9, sN S 17 n) else if kdM (S.2.1 46 a) = 5 then (nI a, S) else if kdM (S.2.1 46 a) = 4 then rdM k S n fr (a + 1) else
      if (nuM S (kdM (S.2.1 46 a)) (a + 1)).1 = true then (if kdM (S.2.1 46 a) = 3 then rdM k S n (nuM S (kdM (S.2.1 46 a)) (a + 1)).2.1 (nuM S (kdM (S.2.1 46 a)) (a + 1)).2.2 else rdM k (iaM S n (kdM (S.2.1 46 a)) (nuM S (kdM (S.2.1 46 a)) (a + 1)).2.1 fr) (n + 1) fr (nuM S (kdM (S.2.1 46 a)) (a + 1)).2.2) else (nI (nuM S (kdM (S.2.1 46 a)) (a + 1)).2.2, S)
theorem kdM_0 {x : Int32} (h : x = nI 103) : kdM x = 0 := by simp [kdM, h]
theorem kdM_1 {x : Int32} (h0 : ¬ x = nI 103) (h : x = nI 119) : kdM x = 1 := by simp only [kdM, if_neg h0, if_pos h]
theorem kdM_2 {x : Int32} (h0 : ¬ x = nI 103) (h1 : ¬ x = nI 119) (h : x = nI 99) : kdM x = 2 := by simp only [kdM, if_neg h0, if_neg h1, if_pos h]
theorem kdM_3 {x : Int32} (h0 : ¬ x = nI 103) (h1 : ¬ x = nI 119) (h2 : ¬ x = nI 99) (h : x = nI 64) : kdM x = 3 := by simp only [kdM, if_neg h0, if_neg h1, if_neg h2, if_pos h]
theorem kdM_4 {x : Int32} (h0 : ¬ x = nI 103) (h1 : ¬ x = nI 119) (h2 : ¬ x = nI 99) (h3 : ¬ x = nI 64) (h : x = nI 32) : kdM x = 4 := by simp only [kdM, if_neg h0, if_neg h1, if_neg h2, if_neg h3, if_pos h]
theorem kdM_5 {x : Int32} (h0 : ¬ x = nI 103) (h1 : ¬ x = nI 119) (h2 : ¬ x = nI 99) (h3 : ¬ x = nI 64) (h : ¬ x = nI 32) : kdM x = 5 := by simp only [kdM, if_neg h0, if_neg h1, if_neg h2, if_neg h3, if_neg h]
theorem nuM_f {S : St} {kd a : Nat} (h : isDM S a = false) : nuM S kd a = (false, 0, a) := by simp [nuM, h]
theorem nuM_0 {S : St} {kd a : Nat} (h : kd < 3) (h2 : S.2.1 46 a = nI 48) : nuM S kd a = (false, 0, a) := by simp [nuM, h, h2]
theorem nuM_t {S : St} {kd a : Nat} (h : isDM S a = true) (h2 : ¬ (kd < 3 ∧ S.2.1 46 a = nI 48)) : nuM S kd a = smM S (moM kd) 60 (tn (S.2.1 46 a) - 48) (a + 1) := by rw [nuM, if_pos ⟨h, h2⟩]
theorem rdM_e {k n fr a : Nat} {S : St} (h : S.1 15 ≤ a) : rdM (k + 1) S n fr a = (-9, sN S 17 n) := by simp [rdM, h]
theorem rdM_5 {k n fr a : Nat} {S : St} (h : ¬ S.1 15 ≤ a) (hk : kdM (S.2.1 46 a) = 5) : rdM (k + 1) S n fr a = (nI a, S) := by simp only [rdM, if_neg h, if_pos hk]
theorem rdM_4 {k n fr a : Nat} {S : St} (h : ¬ S.1 15 ≤ a) (hk : kdM (S.2.1 46 a) = 4) : rdM (k + 1) S n fr a = rdM k S n fr (a + 1) := by simp +decide only [rdM, if_neg h, hk, reduceIte]
theorem rdM_f {k n fr a kd v a2 : Nat} {S : St} (h : ¬ S.1 15 ≤ a) (hk : kdM (S.2.1 46 a) = kd) (h4 : kd < 4) (hn : nuM S kd (a + 1) = (false, v, a2)) : rdM (k + 1) S n fr a = (nI a2, S) := by
  simp only [rdM, if_neg h, hk, hn, if_neg (show ¬ kd = 5 by omega), if_neg (show ¬ kd = 4 by omega)]; rfl
theorem rdM_3 {k n fr a v a2 : Nat} {S : St} (h : ¬ S.1 15 ≤ a) (hk : kdM (S.2.1 46 a) = 3) (hn : nuM S 3 (a + 1) = (true, v, a2)) : rdM (k + 1) S n fr a = rdM k S n v a2 := by
  simp +decide only [rdM, if_neg h, hk, hn, reduceIte]
theorem rdM_i {k n fr a kd v a2 : Nat} {S : St} (h : ¬ S.1 15 ≤ a) (hk : kdM (S.2.1 46 a) = kd) (h3 : kd < 3) (hn : nuM S kd (a + 1) = (true, v, a2)) : rdM (k + 1) S n fr a = rdM k (iaM S n kd v fr) (n + 1) fr a2 := by
  simp only [rdM, if_neg h, hk, hn, if_neg (show ¬ kd = 5 by omega), if_neg (show ¬ kd = 4 by omega), if_neg (show ¬ kd = 3 by omega), if_true]
theorem smM_t {S : St} {m k v a : Nat} (h : isDM S a = true) (h2 : 10 * v + tn (S.2.1 46 a) - 48 ≤ m) (h3 : 10 ≤ 10 * v + tn (S.2.1 46 a) - 48) : smM S m (k + 1) v a = smM S m k (10 * v + tn (S.2.1 46 a) - 48) (a + 1) := by rw [smM, if_pos h, if_pos ⟨h2, h3⟩]
theorem smM_f {S : St} {m k v a : Nat} (h : isDM S a = true) (h2 : ¬ (10 * v + tn (S.2.1 46 a) - 48 ≤ m ∧ 10 ≤ 10 * v + tn (S.2.1 46 a) - 48)) : smM S m (k + 1) v a = (false, 10 * v + tn (S.2.1 46 a) - 48, a) := by rw [smM, if_pos h, if_neg h2]
theorem smM_n {S : St} {m k v a : Nat} (h : isDM S a = false) : smM S m k v a = (true, v, a) := by cases k <;> simp [smM, h]
/-- a scan goes ahead, and what it reads stays within most -/
theorem smM_adv {S : St} {m : Nat} (hb : ByM S) : ∀ (k v a : Nat), a ≤ S.1 15 → v ≤ m → a ≤ (smM S m k v a).2.2 ∧ (smM S m k v a).2.2 ≤ S.1 15 ∧ ((smM S m k v a).1 = true → (smM S m k v a).2.1 ≤ m)
  | 0, v, a, h, hv => ⟨Nat.le_refl _, h, fun _ => hv⟩
  | k + 1, v, a, h, hv => by
    cases hd : isDM S a with
    | false => rw [smM_n hd]; exact ⟨Nat.le_refl _, h, fun _ => hv⟩
    | true =>
      have hc := isDM_of hb hd
      by_cases h2 : 10 * v + tn (S.2.1 46 a) - 48 ≤ m ∧ 10 ≤ 10 * v + tn (S.2.1 46 a) - 48
      · rw [smM_t hd h2.1 h2.2]
        have := smM_adv hb k (10 * v + tn (S.2.1 46 a) - 48) (a + 1) (by omega) h2.1
        exact ⟨by omega, this.2.1, this.2.2⟩
      · rw [smM_f hd h2]
        exact ⟨Nat.le_refl _, h, fun q => by cases q⟩
set_option maxHeartbeats 4000000 in
set_option maxRecDepth 100000 in
theorem m_X8_isDigit (d : Nat) (G : GT) (S : St) (a : Nat) (ha : a ≤ 100) (h15 : S.1 15 ≤ 60) : rX8_isDigit G (d + 1) [.ref (gad G 8), .int (nI a)] S (some (.int (bI (isDM S a)))) S := by
  refine runs_Z (d := d) (by decide) (Nat.le_of_ble_eq_true rfl) (fun X (hX : XC X G d RX8 cX8_isDigit 2) hR => ?_)
  show AW X G 0 [.ref (gad G 8), .int (nI a)] [] S
  refine aw_iload_1 hX dX8_isDigit_0 ?_
  refine aw_aload_0 hX dX8_isDigit_1 ?_
  refine ag_X8_drafted hX fl_X8_64 dX8_isDigit_2 ?_
  first | with_reducible refine aw_icmpgeN hX (tgt := 34) dX8_isDigit_5 (by decide) (by omega) (by omega) (fun c_5 => ?_) (fun c_5 => ?_) | refine aw_jge hX (tgt := 34) dX8_isDigit_5 (by decide) (fun c_5 => ?_) (fun c_5 => ?_)
  · have z5 : isDM S a = false := by simp only [isDM, decide_eq_false (show ¬ a < S.1 15 by omega), Bool.false_and]
    refine aw_iconst hX (v := nI 0) (by decide) dX8_isDigit_34 ?_
    refine aw_finI (hR _ _ dX8_isDigit_35) ?_ ?_
    · first | exact bF z5 | exact bF (by simp [isDM, c_5]) | exact bT (by simp [isDM, c_5])
    · rfl
  · skip
    refine aw_aload_0 hX dX8_isDigit_8 ?_
    refine ag_X8_draft hX fl_X8_7 dX8_isDigit_9 ?_
    refine aw_iload_1 hX dX8_isDigit_12 ?_
    refine aw_iald hX dX8_isDigit_13 rfl (by decide) (by omega) ?_
    refine aw_bipush hX (v := nI 48) (by decide) dX8_isDigit_14 ?_
    refine aw_jlt hX (tgt := 34) dX8_isDigit_16 (by decide) (fun c_16 => ?_) (fun c_16 => ?_)
    · skip
      refine aw_iconst hX (v := nI 0) (by decide) dX8_isDigit_34 ?_
      refine aw_finI (hR _ _ dX8_isDigit_35) ?_ ?_
      · first | exact bF z5 | exact bF (by simp [isDM, c_5, c_16]) | exact bT (by simp [isDM, c_5, c_16])
      · rfl
    · skip
      refine aw_aload_0 hX dX8_isDigit_19 ?_
      refine ag_X8_draft hX fl_X8_7 dX8_isDigit_20 ?_
      refine aw_iload_1 hX dX8_isDigit_23 ?_
      refine aw_iald hX dX8_isDigit_24 rfl (by decide) (by omega) ?_
      refine aw_bipush hX (v := nI 57) (by decide) dX8_isDigit_25 ?_
      refine aw_jgt hX (tgt := 34) dX8_isDigit_27 (by decide) (fun c_27 => ?_) (fun c_27 => ?_)
      · skip
        refine aw_iconst hX (v := nI 0) (by decide) dX8_isDigit_34 ?_
        refine aw_finI (hR _ _ dX8_isDigit_35) ?_ ?_
        · first | exact bF z5 | exact bF (by simp [isDM, c_5, c_16, c_27]) | exact bT (by simp [isDM, c_5, c_16, c_27])
        · rfl
      · skip
        refine aw_iconst hX (v := nI 1) (by decide) dX8_isDigit_30 ?_
        refine aw_goto hX (tgt := 35) dX8_isDigit_31 (by decide) ?_
        refine aw_finI (hR _ _ dX8_isDigit_35) ?_ ?_
        · first | exact bF z5 | exact bF (by simp [isDM, c_5, c_16, c_27]) | exact bT (by simp [isDM, c_5, c_16, c_27])
        · rfl
set_option maxHeartbeats 4000000 in
set_option maxRecDepth 100000 in
theorem m_X8_reads (d : Nat) (G : GT) (S : St) (hb : ByM S) (h15 : S.1 15 ≤ 60) (h16 : S.1 16 ≤ 6) (hst : S.2.1 48 (S.1 16) = nI (tn (S.2.1 48 (S.1 16)))) (hn0 : (tn (S.2.1 48 (S.1 16))) ≤ 180) : rX8_reads G (d + 2) [.ref (gad G 8)] S (some (.int ((rdM 60 S (tn (S.2.1 48 (S.1 16))) 0 0).1))) (rdM 60 S (tn (S.2.1 48 (S.1 16))) 0 0).2 := by
  refine runs_I (d := (d + 1)) (by decide) (Nat.le_of_ble_eq_true rfl) (fun X (hX : XC X G (d + 1) RX8 cX8_reads 8) hR => ?_)
  show AW X G 0 [.ref (gad G 8), .null, .null, .null, .null, .null, .null, .null] [] S
  have inner : ∀ (S1 : St) (n fr kd m : Nat) (c4 : Value), c4.category = 1 → ByM S1 → S1.1 15 ≤ 60 → kd < 4 → m ≤ 500 → ∀ k v a : Nat, a ≤ 61 → S1.1 15 ≤ a + k → v ≤ 500 → (∀ v' a' : Nat, smM S1 m k v a = (true, v', a') → AW X G 213 [.ref (gad G 8), .int (nI n), .int (nI fr), .int (nI a'), c4, .int (nI kd), .int (nI m), .int (nI v')] [] S1) → (∀ v' a' : Nat, smM S1 m k v a = (false, v', a') → ∀ (pc : Nat) (L : List Value), decode cX8_reads pc = .ok (.ireturn, 1) → AW X G pc L [.int (nI a')] S1) → AW X G 166 [.ref (gad G 8), .int (nI n), .int (nI fr), .int (nI a), c4, .int (nI kd), .int (nI m), .int (nI v)] [] S1 := by
    intro S1 n fr kd m c4 hc4 hb h15 hkd hm k
    induction k with
    | zero =>
      intro v a ha hak hv hk hf
      refine aw_aload_0 hX dX8_reads_166 ?_
      refine aw_iload_3 hX dX8_reads_167 ?_
      refine cv_X8_isDigit hX ml_X8_72 dX8_reads_168 (m_X8_isDigit _ G S1 a (by omega) (by omega)) (Nat.le_of_ble_eq_true rfl) ?_
      first | with_reducible refine aw_ifeqB hX (tgt := 213) dX8_reads_171 (by decide) (fun c_171 => ?_) (fun c_171 => ?_) | refine aw_ifeq hX (tgt := 213) dX8_reads_171 (by decide) (fun c_171 => ?_) (fun c_171 => ?_)
      · skip
        exact hk v a rfl
      · exact absurd (isDM_of hb c_171).1 (by omega)
    | succ k ih =>
      intro v a ha hak hv hk hf
      refine aw_aload_0 hX dX8_reads_166 ?_
      refine aw_iload_3 hX dX8_reads_167 ?_
      refine cv_X8_isDigit hX ml_X8_72 dX8_reads_168 (m_X8_isDigit _ G S1 a (by omega) (by omega)) (Nat.le_of_ble_eq_true rfl) ?_
      first | with_reducible refine aw_ifeqB hX (tgt := 213) dX8_reads_171 (by decide) (fun c_171 => ?_) (fun c_171 => ?_) | refine aw_ifeq hX (tgt := 213) dX8_reads_171 (by decide) (fun c_171 => ?_) (fun c_171 => ?_)
      · skip
        exact hk v a (smM_n c_171)
      · have hc := isDM_of hb c_171
        refine aw_bipush hX (v := nI 10) (by decide) dX8_reads_174 ?_
        refine aw_iload_7 hX dX8_reads_176 ?_
        first | with_reducible refine aw_imulN hX dX8_reads_178 ?_ | refine aw_imul hX dX8_reads_178 ?_
        refine aw_aload_0 hX dX8_reads_179 ?_
        refine ag_X8_draft hX fl_X8_7 dX8_reads_180 ?_
        refine aw_iload_3 hX dX8_reads_183 ?_
        refine aw_iald hX dX8_reads_184 rfl (by decide) (by omega) ?_
        refine aw_ti (hb a).1 ?_
        first | with_reducible refine aw_iaddN hX dX8_reads_185 ?_ | refine aw_iadd hX dX8_reads_185 ?_
        refine aw_bipush hX (v := nI 48) (by decide) dX8_reads_186 ?_
        first | with_reducible refine aw_isubN hX (by omega) dX8_reads_188 ?_ | refine aw_isub hX dX8_reads_188 ?_
        refine aw_istore_7 hX rfl (by decide) dX8_reads_189 ?_
        refine aw_iload_7 hX dX8_reads_191 ?_
        refine aw_iload_6 hX dX8_reads_193 ?_
        first | with_reducible refine aw_icmpgtN hX (tgt := 205) dX8_reads_195 (by decide) (by omega) (by omega) (fun c_195 => ?_) (fun c_195 => ?_) | refine aw_jgt hX (tgt := 205) dX8_reads_195 (by decide) (fun c_195 => ?_) (fun c_195 => ?_)
        · skip
          refine aw_iload_3 hX dX8_reads_205 ?_
          exact hf _ _ (smM_f c_171 (by omega)) _ _ dX8_reads_206
        · skip
          refine aw_iload_7 hX dX8_reads_198 ?_
          refine aw_bipush hX (v := nI 10) (by decide) dX8_reads_200 ?_
          first | with_reducible refine aw_icmpgeN hX (tgt := 207) dX8_reads_202 (by decide) (by omega) (by omega) (fun c_202 => ?_) (fun c_202 => ?_) | refine aw_jge hX (tgt := 207) dX8_reads_202 (by decide) (fun c_202 => ?_) (fun c_202 => ?_)
          · skip
            first | with_reducible refine aw_iinc_3N hX rfl (by decide) dX8_reads_207 ?_ | refine aw_iinc_3 hX rfl (by decide) dX8_reads_207 ?_
            refine aw_goto hX (tgt := 166) dX8_reads_210 (by decide) ?_
            exact ih _ (a + 1) (by omega) (by omega) (by omega) (fun v' a' h => hk v' a' (by rw [smM_t c_171 (by omega) (by omega)]; exact h)) (fun v' a' h => hf v' a' (by rw [smM_t c_171 (by omega) (by omega)]; exact h))
          · skip
            refine aw_iload_3 hX dX8_reads_205 ?_
            exact hf _ _ (smM_f c_171 (by omega)) _ _ dX8_reads_206
  have loop : ∀ (k : Nat) (S1 : St) (n fr a : Nat) (c4 c5 c6 c7 : Value), c4.category = 1 → c5.category = 1 → c6.category = 1 → ByM S1 → S1.1 15 ≤ 60 → a ≤ S1.1 15 → S1.1 15 ≤ a + k → 2 * n ≤ 360 + a → rdM k S1 n fr a = rdM 60 S (tn (S.2.1 48 (S.1 16))) 0 0 → AW X G 14 [.ref (gad G 8), .int (nI n), .int (nI fr), .int (nI a), c4, c5, c6, c7] [] S1 := by
    intro k
    induction k with
    | zero =>
      intro S1 n fr a c4 c5 c6 c7 h4 h5 h6 hb h15 ha hak hn hp
      refine aw_iload_3 hX dX8_reads_14 ?_
      refine aw_aload_0 hX dX8_reads_15 ?_
      refine ag_X8_drafted hX fl_X8_64 dX8_reads_16 ?_
      first | with_reducible refine aw_icmpgeN hX (tgt := 254) dX8_reads_19 (by decide) (by omega) (by omega) (fun c_19 => ?_) (fun c_19 => ?_) | refine aw_jge hX (tgt := 254) dX8_reads_19 (by decide) (fun c_19 => ?_) (fun c_19 => ?_)
      · skip
        refine aw_aload_0 hX dX8_reads_254 ?_
        refine aw_iload_1 hX dX8_reads_255 ?_
        refine ap_X8_items hX fl_X8_76 dX8_reads_256 ?_
        refine aw_bipush hX (v := (-9)) (by decide) dX8_reads_259 ?_
        refine aw_finI (hR _ _ dX8_reads_261) ?_ ?_
        · rw [← hp]; rfl
        · rw [← hp]; rfl
      · exact absurd c_19 (by omega)
    | succ k ih =>
      intro S1 n fr a c4 c5 c6 c7 h4 h5 h6 hb h15 ha hak hn hp
      refine aw_iload_3 hX dX8_reads_14 ?_
      refine aw_aload_0 hX dX8_reads_15 ?_
      refine ag_X8_drafted hX fl_X8_64 dX8_reads_16 ?_
      first | with_reducible refine aw_icmpgeN hX (tgt := 254) dX8_reads_19 (by decide) (by omega) (by omega) (fun c_19 => ?_) (fun c_19 => ?_) | refine aw_jge hX (tgt := 254) dX8_reads_19 (by decide) (fun c_19 => ?_) (fun c_19 => ?_)
      · skip
        refine aw_aload_0 hX dX8_reads_254 ?_
        refine aw_iload_1 hX dX8_reads_255 ?_
        refine ap_X8_items hX fl_X8_76 dX8_reads_256 ?_
        refine aw_bipush hX (v := (-9)) (by decide) dX8_reads_259 ?_
        refine aw_finI (hR _ _ dX8_reads_261) ?_ ?_
        · rw [← hp, rdM_e c_19]
        · rw [← hp, rdM_e c_19]
      · have hna : ¬ S1.1 15 ≤ a := by omega
        refine aw_aload_0 hX dX8_reads_22 ?_
        refine ag_X8_draft hX fl_X8_7 dX8_reads_23 ?_
        refine aw_iload_3 hX dX8_reads_26 ?_
        refine aw_iald hX dX8_reads_27 rfl (by decide) (by omega) ?_
        refine aw_istore_4 hX rfl (by decide) dX8_reads_28 ?_
        refine aw_iload_4 hX dX8_reads_30 ?_
        refine aw_bipush hX (v := nI 103) (by decide) dX8_reads_32 ?_
        first | with_reducible refine aw_icmpneN hX (tgt := 41) dX8_reads_34 (by decide) (by omega) (by omega) (fun c_34 => ?_) (fun c_34 => ?_) | refine aw_icmpne hX (tgt := 41) dX8_reads_34 (by decide) (fun c_34 => ?_) (fun c_34 => ?_)
        · skip
          refine aw_iload_4 hX dX8_reads_41 ?_
          refine aw_bipush hX (v := nI 119) (by decide) dX8_reads_43 ?_
          first | with_reducible refine aw_icmpneN hX (tgt := 52) dX8_reads_45 (by decide) (by omega) (by omega) (fun c_45 => ?_) (fun c_45 => ?_) | refine aw_icmpne hX (tgt := 52) dX8_reads_45 (by decide) (fun c_45 => ?_) (fun c_45 => ?_)
          · skip
            refine aw_iload_4 hX dX8_reads_52 ?_
            refine aw_bipush hX (v := nI 99) (by decide) dX8_reads_54 ?_
            first | with_reducible refine aw_icmpneN hX (tgt := 63) dX8_reads_56 (by decide) (by omega) (by omega) (fun c_56 => ?_) (fun c_56 => ?_) | refine aw_icmpne hX (tgt := 63) dX8_reads_56 (by decide) (fun c_56 => ?_) (fun c_56 => ?_)
            · skip
              refine aw_iload_4 hX dX8_reads_63 ?_
              refine aw_bipush hX (v := nI 64) (by decide) dX8_reads_65 ?_
              first | with_reducible refine aw_icmpneN hX (tgt := 74) dX8_reads_67 (by decide) (by omega) (by omega) (fun c_67 => ?_) (fun c_67 => ?_) | refine aw_icmpne hX (tgt := 74) dX8_reads_67 (by decide) (fun c_67 => ?_) (fun c_67 => ?_)
              · skip
                refine aw_iload_4 hX dX8_reads_74 ?_
                refine aw_bipush hX (v := nI 32) (by decide) dX8_reads_76 ?_
                first | with_reducible refine aw_icmpneN hX (tgt := 85) dX8_reads_78 (by decide) (by omega) (by omega) (fun c_78 => ?_) (fun c_78 => ?_) | refine aw_icmpne hX (tgt := 85) dX8_reads_78 (by decide) (fun c_78 => ?_) (fun c_78 => ?_)
                · have hkd := kdM_5 c_34 c_45 c_56 c_67 c_78
                  refine aw_iconst hX (v := nI 5) (by decide) dX8_reads_85 ?_
                  refine aw_istore_5 hX rfl (by decide) dX8_reads_86 ?_
                  refine aw_iload_5 hX dX8_reads_88 ?_
                  refine aw_iconst hX (v := nI 5) (by decide) dX8_reads_90 ?_
                  refine aw_icmpne hX (tgt := 96) dX8_reads_91 (by decide) (fun c => absurd c (by decide)) (fun _ => ?_)
                  refine aw_iload_3 hX dX8_reads_94 ?_
                  refine aw_finI (hR _ _ dX8_reads_95) ?_ ?_
                  · rw [← hp, rdM_5 hna hkd]
                  · rw [← hp, rdM_5 hna hkd]
                · have hkd := kdM_4 c_34 c_45 c_56 c_67 c_78
                  refine aw_iconst hX (v := nI 4) (by decide) dX8_reads_81 ?_
                  refine aw_goto hX (tgt := 86) dX8_reads_82 (by decide) ?_
                  refine aw_istore_5 hX rfl (by decide) dX8_reads_86 ?_
                  refine aw_iload_5 hX dX8_reads_88 ?_
                  refine aw_iconst hX (v := nI 5) (by decide) dX8_reads_90 ?_
                  refine aw_icmpne hX (tgt := 96) dX8_reads_91 (by decide) (fun _ => ?_) (fun c => absurd c (by decide))
                  first | with_reducible refine aw_iinc_3N hX rfl (by decide) dX8_reads_96 ?_ | refine aw_iinc_3 hX rfl (by decide) dX8_reads_96 ?_
                  refine aw_iload_5 hX dX8_reads_99 ?_
                  refine aw_iconst hX (v := nI 4) (by decide) dX8_reads_101 ?_
                  refine aw_icmpne hX (tgt := 108) dX8_reads_102 (by decide) (fun c => absurd c (by decide)) (fun _ => ?_)
                  refine aw_goto hX (tgt := 14) dX8_reads_105 (by decide) ?_
                  exact ih _ _ _ _ _ _ _ _ rfl rfl h6 hb h15 (by omega) (by omega) (by omega) (by rw [← hp, rdM_4 hna hkd])
              · have hkd := kdM_3 c_34 c_45 c_56 c_67
                refine aw_iconst hX (v := nI 3) (by decide) dX8_reads_70 ?_
                refine aw_goto hX (tgt := 86) dX8_reads_71 (by decide) ?_
                refine aw_istore_5 hX rfl (by decide) dX8_reads_86 ?_
                refine aw_iload_5 hX dX8_reads_88 ?_
                refine aw_iconst hX (v := nI 5) (by decide) dX8_reads_90 ?_
                refine aw_icmpne hX (tgt := 96) dX8_reads_91 (by decide) (fun _ => ?_) (fun c => absurd c (by decide))
                first | with_reducible refine aw_iinc_3N hX rfl (by decide) dX8_reads_96 ?_ | refine aw_iinc_3 hX rfl (by decide) dX8_reads_96 ?_
                refine aw_iload_5 hX dX8_reads_99 ?_
                refine aw_iconst hX (v := nI 4) (by decide) dX8_reads_101 ?_
                refine aw_icmpne hX (tgt := 108) dX8_reads_102 (by decide) (fun _ => ?_) (fun c => absurd c (by decide))
                refine aw_aload_0 hX dX8_reads_108 ?_
                refine aw_iload_3 hX dX8_reads_109 ?_
                refine cv_X8_isDigit hX ml_X8_72 dX8_reads_110 (m_X8_isDigit _ G S1 (a + 1) (by omega) (by omega)) (Nat.le_of_ble_eq_true rfl) ?_
                first | with_reducible refine aw_ifeqB hX (tgt := 133) dX8_reads_113 (by decide) (fun c_113 => ?_) (fun c_113 => ?_) | refine aw_ifeq hX (tgt := 133) dX8_reads_113 (by decide) (fun c_113 => ?_) (fun c_113 => ?_)
                · have hnu := nuM_f (kd := kdM (S1.2.1 46 a)) c_113
                  refine aw_iload_3 hX dX8_reads_133 ?_
                  refine aw_finI (hR _ _ dX8_reads_134) ?_ ?_
                  · rw [← hp, rdM_f hna hkd (by decide) (by rw [hkd] at hnu; exact hnu)]
                  · rw [← hp, rdM_f hna hkd (by decide) (by rw [hkd] at hnu; exact hnu)]
                · have hcc := isDM_of hb c_113
                  refine aw_iload_5 hX dX8_reads_116 ?_
                  refine aw_iconst hX (v := nI 3) (by decide) dX8_reads_118 ?_
                  refine aw_icmpge hX (tgt := 135) dX8_reads_119 (by decide) (fun _ => ?_) (fun c => absurd c (by decide))
                  refine aw_iload_5 hX dX8_reads_135 ?_
                  refine aw_iconst hX (v := nI 3) (by decide) dX8_reads_137 ?_
                  refine aw_icmpne hX (tgt := 147) dX8_reads_138 (by decide) (fun c => absurd c (by decide)) (fun _ => ?_)
                  refine aw_sipush hX (v := nI 500) (by decide) dX8_reads_141 ?_
                  refine aw_goto hX (tgt := 150) dX8_reads_144 (by decide) ?_
                  refine aw_istore_6 hX rfl (by decide) dX8_reads_150 ?_
                  refine aw_aload_0 hX dX8_reads_152 ?_
                  refine ag_X8_draft hX fl_X8_7 dX8_reads_153 ?_
                  refine aw_iload_3 hX dX8_reads_156 ?_
                  refine aw_iald hX dX8_reads_157 rfl (by decide) (by omega) ?_
                  refine aw_ti (hb (a + 1)).1 ?_
                  refine aw_bipush hX (v := nI 48) (by decide) dX8_reads_158 ?_
                  first | with_reducible refine aw_isubN hX (by omega) dX8_reads_160 ?_ | refine aw_isub hX dX8_reads_160 ?_
                  refine aw_istore_7 hX rfl (by decide) dX8_reads_161 ?_
                  first | with_reducible refine aw_iinc_3N hX rfl (by decide) dX8_reads_163 ?_ | refine aw_iinc_3 hX rfl (by decide) dX8_reads_163 ?_
                  have hnt := isDM_of hb c_113
                  refine inner S1 n fr 3 500 (.int (S1.2.1 46 a)) rfl hb h15 (by decide) (by decide) 60 (tn (S1.2.1 46 (a + 1)) - 48) (a + 1 + 1) (by omega) (by omega) (by omega) (fun v' a' h => ?_) (fun v' a' h pc L hd => ?_)
                  · have hadv := smM_adv (m := 500) hb 60 (tn (S1.2.1 46 (a + 1)) - 48) (a + 1 + 1) (by omega) (by omega)
                    rw [h] at hadv
                    have hadv1 : a + 1 + 1 ≤ a' := hadv.1
                    have hadv2 : a' ≤ S1.1 15 := hadv.2.1
                    have h4 : (Value.int (S1.2.1 46 a)).category = 1 := rfl
                    refine aw_iload_5 hX dX8_reads_213 ?_
                    refine aw_iconst hX (v := nI 3) (by decide) dX8_reads_215 ?_
                    refine aw_icmpne hX (tgt := 225) dX8_reads_216 (by decide) (fun c => absurd c (by decide)) (fun _ => ?_)
                    refine aw_iload_7 hX dX8_reads_219 ?_
                    refine aw_istore_2 hX rfl (by decide) dX8_reads_221 ?_
                    refine aw_goto hX (tgt := 251) dX8_reads_222 (by decide) ?_
                    refine aw_goto hX (tgt := 14) dX8_reads_251 (by decide) ?_
                    exact ih _ _ _ _ _ _ _ _ h4 rfl rfl hb h15 (by omega) (by omega) (by omega) (by rw [← hp, rdM_3 hna hkd ((nuM_t c_113 (by omega)).trans h)])
                  · refine aw_finI (hR pc L hd) ?_ ?_
                    · rw [← hp, rdM_f hna hkd (by decide) ((nuM_t c_113 (by omega)).trans h)]
                    · rw [← hp, rdM_f hna hkd (by decide) ((nuM_t c_113 (by omega)).trans h)]
            · have hkd := kdM_2 c_34 c_45 c_56
              refine aw_iconst hX (v := nI 2) (by decide) dX8_reads_59 ?_
              refine aw_goto hX (tgt := 86) dX8_reads_60 (by decide) ?_
              refine aw_istore_5 hX rfl (by decide) dX8_reads_86 ?_
              refine aw_iload_5 hX dX8_reads_88 ?_
              refine aw_iconst hX (v := nI 5) (by decide) dX8_reads_90 ?_
              refine aw_icmpne hX (tgt := 96) dX8_reads_91 (by decide) (fun _ => ?_) (fun c => absurd c (by decide))
              first | with_reducible refine aw_iinc_3N hX rfl (by decide) dX8_reads_96 ?_ | refine aw_iinc_3 hX rfl (by decide) dX8_reads_96 ?_
              refine aw_iload_5 hX dX8_reads_99 ?_
              refine aw_iconst hX (v := nI 4) (by decide) dX8_reads_101 ?_
              refine aw_icmpne hX (tgt := 108) dX8_reads_102 (by decide) (fun _ => ?_) (fun c => absurd c (by decide))
              refine aw_aload_0 hX dX8_reads_108 ?_
              refine aw_iload_3 hX dX8_reads_109 ?_
              refine cv_X8_isDigit hX ml_X8_72 dX8_reads_110 (m_X8_isDigit _ G S1 (a + 1) (by omega) (by omega)) (Nat.le_of_ble_eq_true rfl) ?_
              first | with_reducible refine aw_ifeqB hX (tgt := 133) dX8_reads_113 (by decide) (fun c_113 => ?_) (fun c_113 => ?_) | refine aw_ifeq hX (tgt := 133) dX8_reads_113 (by decide) (fun c_113 => ?_) (fun c_113 => ?_)
              · have hnu := nuM_f (kd := kdM (S1.2.1 46 a)) c_113
                refine aw_iload_3 hX dX8_reads_133 ?_
                refine aw_finI (hR _ _ dX8_reads_134) ?_ ?_
                · rw [← hp, rdM_f hna hkd (by decide) (by rw [hkd] at hnu; exact hnu)]
                · rw [← hp, rdM_f hna hkd (by decide) (by rw [hkd] at hnu; exact hnu)]
              · have hcc := isDM_of hb c_113
                refine aw_iload_5 hX dX8_reads_116 ?_
                refine aw_iconst hX (v := nI 3) (by decide) dX8_reads_118 ?_
                refine aw_icmpge hX (tgt := 135) dX8_reads_119 (by decide) (fun c => absurd c (by decide)) (fun _ => ?_)
                refine aw_aload_0 hX dX8_reads_122 ?_
                refine ag_X8_draft hX fl_X8_7 dX8_reads_123 ?_
                refine aw_iload_3 hX dX8_reads_126 ?_
                refine aw_iald hX dX8_reads_127 rfl (by decide) (by omega) ?_
                refine aw_bipush hX (v := nI 48) (by decide) dX8_reads_128 ?_
                refine aw_icmpne hX (tgt := 135) dX8_reads_130 (by decide) (fun c_130 => ?_) (fun c_130 => ?_)
                · skip
                  refine aw_iload_5 hX dX8_reads_135 ?_
                  refine aw_iconst hX (v := nI 3) (by decide) dX8_reads_137 ?_
                  refine aw_icmpne hX (tgt := 147) dX8_reads_138 (by decide) (fun _ => ?_) (fun c => absurd c (by decide))
                  refine aw_sipush hX (v := nI 200) (by decide) dX8_reads_147 ?_
                  refine aw_istore_6 hX rfl (by decide) dX8_reads_150 ?_
                  refine aw_aload_0 hX dX8_reads_152 ?_
                  refine ag_X8_draft hX fl_X8_7 dX8_reads_153 ?_
                  refine aw_iload_3 hX dX8_reads_156 ?_
                  refine aw_iald hX dX8_reads_157 rfl (by decide) (by omega) ?_
                  refine aw_ti (hb (a + 1)).1 ?_
                  refine aw_bipush hX (v := nI 48) (by decide) dX8_reads_158 ?_
                  first | with_reducible refine aw_isubN hX (by omega) dX8_reads_160 ?_ | refine aw_isub hX dX8_reads_160 ?_
                  refine aw_istore_7 hX rfl (by decide) dX8_reads_161 ?_
                  first | with_reducible refine aw_iinc_3N hX rfl (by decide) dX8_reads_163 ?_ | refine aw_iinc_3 hX rfl (by decide) dX8_reads_163 ?_
                  have hnt := isDM_of hb c_113
                  refine inner S1 n fr 2 200 (.int (S1.2.1 46 a)) rfl hb h15 (by decide) (by decide) 60 (tn (S1.2.1 46 (a + 1)) - 48) (a + 1 + 1) (by omega) (by omega) (by omega) (fun v' a' h => ?_) (fun v' a' h pc L hd => ?_)
                  · have hadv := smM_adv (m := 200) hb 60 (tn (S1.2.1 46 (a + 1)) - 48) (a + 1 + 1) (by omega) (by omega)
                    rw [h] at hadv
                    have hadv1 : a + 1 + 1 ≤ a' := hadv.1
                    have hadv2 : a' ≤ S1.1 15 := hadv.2.1
                    have h4 : (Value.int (S1.2.1 46 a)).category = 1 := rfl
                    refine aw_iload_5 hX dX8_reads_213 ?_
                    refine aw_iconst hX (v := nI 3) (by decide) dX8_reads_215 ?_
                    refine aw_icmpne hX (tgt := 225) dX8_reads_216 (by decide) (fun _ => ?_) (fun c => absurd c (by decide))
                    refine aw_aload_0 hX dX8_reads_225 ?_
                    refine ag_X8_fuelOf hX fl_X8_19 dX8_reads_226 ?_
                    refine aw_iload_1 hX dX8_reads_229 ?_
                    refine aw_iload_5 hX dX8_reads_230 ?_
                    refine aw_iast hX dX8_reads_232 rfl (fun _ => rfl) (by decide) (by omega) ?_
                    refine aw_aload_0 hX dX8_reads_233 ?_
                    refine ag_X8_spanOf hX fl_X8_22 dX8_reads_234 ?_
                    try simp +decide only [sN_N, sN_A, sN_L, sN_R, sA_N, sA_A, sA_L, sA_R, sL_N, sL_A, sL_L, sL_R, sR_N, sR_A, sR_L, sR_R, reduceIte]
                    refine aw_iload_1 hX dX8_reads_237 ?_
                    refine aw_iload_7 hX dX8_reads_238 ?_
                    refine aw_iast hX dX8_reads_240 rfl (fun _ => rfl) (by decide) (by omega) ?_
                    refine aw_aload_0 hX dX8_reads_241 ?_
                    refine ag_X8_fromOf hX fl_X8_25 dX8_reads_242 ?_
                    try simp +decide only [sN_N, sN_A, sN_L, sN_R, sA_N, sA_A, sA_L, sA_R, sL_N, sL_A, sL_L, sL_R, sR_N, sR_A, sR_L, sR_R, reduceIte]
                    refine aw_iload_1 hX dX8_reads_245 ?_
                    refine aw_iload_2 hX dX8_reads_246 ?_
                    refine aw_iast hX dX8_reads_247 rfl (fun _ => rfl) (by decide) (by omega) ?_
                    first | with_reducible refine aw_iinc_1N hX rfl (by decide) dX8_reads_248 ?_ | refine aw_iinc_1 hX rfl (by decide) dX8_reads_248 ?_
                    refine aw_goto hX (tgt := 14) dX8_reads_251 (by decide) ?_
                    exact ih (iaM S1 n 2 v' fr) (n + 1) fr a' _ _ _ _ h4 rfl rfl hb h15 (by exact hadv.2.1) (by show S1.1 15 ≤ a' + k; omega) (by omega) (by rw [← hp, rdM_i hna hkd (by decide) ((nuM_t c_113 (fun z => c_130 z.2)).trans h)])
                  · refine aw_finI (hR pc L hd) ?_ ?_
                    · rw [← hp, rdM_f hna hkd (by decide) ((nuM_t c_113 (fun z => c_130 z.2)).trans h)]
                    · rw [← hp, rdM_f hna hkd (by decide) ((nuM_t c_113 (fun z => c_130 z.2)).trans h)]
                · have hnu := nuM_0 (kd := kdM (S1.2.1 46 a)) (by rw [hkd]; decide) c_130
                  refine aw_iload_3 hX dX8_reads_133 ?_
                  refine aw_finI (hR _ _ dX8_reads_134) ?_ ?_
                  · rw [← hp, rdM_f hna hkd (by decide) (by rw [hkd] at hnu; exact hnu)]
                  · rw [← hp, rdM_f hna hkd (by decide) (by rw [hkd] at hnu; exact hnu)]
          · have hkd := kdM_1 c_34 c_45
            refine aw_iconst hX (v := nI 1) (by decide) dX8_reads_48 ?_
            refine aw_goto hX (tgt := 86) dX8_reads_49 (by decide) ?_
            refine aw_istore_5 hX rfl (by decide) dX8_reads_86 ?_
            refine aw_iload_5 hX dX8_reads_88 ?_
            refine aw_iconst hX (v := nI 5) (by decide) dX8_reads_90 ?_
            refine aw_icmpne hX (tgt := 96) dX8_reads_91 (by decide) (fun _ => ?_) (fun c => absurd c (by decide))
            first | with_reducible refine aw_iinc_3N hX rfl (by decide) dX8_reads_96 ?_ | refine aw_iinc_3 hX rfl (by decide) dX8_reads_96 ?_
            refine aw_iload_5 hX dX8_reads_99 ?_
            refine aw_iconst hX (v := nI 4) (by decide) dX8_reads_101 ?_
            refine aw_icmpne hX (tgt := 108) dX8_reads_102 (by decide) (fun _ => ?_) (fun c => absurd c (by decide))
            refine aw_aload_0 hX dX8_reads_108 ?_
            refine aw_iload_3 hX dX8_reads_109 ?_
            refine cv_X8_isDigit hX ml_X8_72 dX8_reads_110 (m_X8_isDigit _ G S1 (a + 1) (by omega) (by omega)) (Nat.le_of_ble_eq_true rfl) ?_
            first | with_reducible refine aw_ifeqB hX (tgt := 133) dX8_reads_113 (by decide) (fun c_113 => ?_) (fun c_113 => ?_) | refine aw_ifeq hX (tgt := 133) dX8_reads_113 (by decide) (fun c_113 => ?_) (fun c_113 => ?_)
            · have hnu := nuM_f (kd := kdM (S1.2.1 46 a)) c_113
              refine aw_iload_3 hX dX8_reads_133 ?_
              refine aw_finI (hR _ _ dX8_reads_134) ?_ ?_
              · rw [← hp, rdM_f hna hkd (by decide) (by rw [hkd] at hnu; exact hnu)]
              · rw [← hp, rdM_f hna hkd (by decide) (by rw [hkd] at hnu; exact hnu)]
            · have hcc := isDM_of hb c_113
              refine aw_iload_5 hX dX8_reads_116 ?_
              refine aw_iconst hX (v := nI 3) (by decide) dX8_reads_118 ?_
              refine aw_icmpge hX (tgt := 135) dX8_reads_119 (by decide) (fun c => absurd c (by decide)) (fun _ => ?_)
              refine aw_aload_0 hX dX8_reads_122 ?_
              refine ag_X8_draft hX fl_X8_7 dX8_reads_123 ?_
              refine aw_iload_3 hX dX8_reads_126 ?_
              refine aw_iald hX dX8_reads_127 rfl (by decide) (by omega) ?_
              refine aw_bipush hX (v := nI 48) (by decide) dX8_reads_128 ?_
              refine aw_icmpne hX (tgt := 135) dX8_reads_130 (by decide) (fun c_130 => ?_) (fun c_130 => ?_)
              · skip
                refine aw_iload_5 hX dX8_reads_135 ?_
                refine aw_iconst hX (v := nI 3) (by decide) dX8_reads_137 ?_
                refine aw_icmpne hX (tgt := 147) dX8_reads_138 (by decide) (fun _ => ?_) (fun c => absurd c (by decide))
                refine aw_sipush hX (v := nI 200) (by decide) dX8_reads_147 ?_
                refine aw_istore_6 hX rfl (by decide) dX8_reads_150 ?_
                refine aw_aload_0 hX dX8_reads_152 ?_
                refine ag_X8_draft hX fl_X8_7 dX8_reads_153 ?_
                refine aw_iload_3 hX dX8_reads_156 ?_
                refine aw_iald hX dX8_reads_157 rfl (by decide) (by omega) ?_
                refine aw_ti (hb (a + 1)).1 ?_
                refine aw_bipush hX (v := nI 48) (by decide) dX8_reads_158 ?_
                first | with_reducible refine aw_isubN hX (by omega) dX8_reads_160 ?_ | refine aw_isub hX dX8_reads_160 ?_
                refine aw_istore_7 hX rfl (by decide) dX8_reads_161 ?_
                first | with_reducible refine aw_iinc_3N hX rfl (by decide) dX8_reads_163 ?_ | refine aw_iinc_3 hX rfl (by decide) dX8_reads_163 ?_
                have hnt := isDM_of hb c_113
                refine inner S1 n fr 1 200 (.int (S1.2.1 46 a)) rfl hb h15 (by decide) (by decide) 60 (tn (S1.2.1 46 (a + 1)) - 48) (a + 1 + 1) (by omega) (by omega) (by omega) (fun v' a' h => ?_) (fun v' a' h pc L hd => ?_)
                · have hadv := smM_adv (m := 200) hb 60 (tn (S1.2.1 46 (a + 1)) - 48) (a + 1 + 1) (by omega) (by omega)
                  rw [h] at hadv
                  have hadv1 : a + 1 + 1 ≤ a' := hadv.1
                  have hadv2 : a' ≤ S1.1 15 := hadv.2.1
                  have h4 : (Value.int (S1.2.1 46 a)).category = 1 := rfl
                  refine aw_iload_5 hX dX8_reads_213 ?_
                  refine aw_iconst hX (v := nI 3) (by decide) dX8_reads_215 ?_
                  refine aw_icmpne hX (tgt := 225) dX8_reads_216 (by decide) (fun _ => ?_) (fun c => absurd c (by decide))
                  refine aw_aload_0 hX dX8_reads_225 ?_
                  refine ag_X8_fuelOf hX fl_X8_19 dX8_reads_226 ?_
                  refine aw_iload_1 hX dX8_reads_229 ?_
                  refine aw_iload_5 hX dX8_reads_230 ?_
                  refine aw_iast hX dX8_reads_232 rfl (fun _ => rfl) (by decide) (by omega) ?_
                  refine aw_aload_0 hX dX8_reads_233 ?_
                  refine ag_X8_spanOf hX fl_X8_22 dX8_reads_234 ?_
                  try simp +decide only [sN_N, sN_A, sN_L, sN_R, sA_N, sA_A, sA_L, sA_R, sL_N, sL_A, sL_L, sL_R, sR_N, sR_A, sR_L, sR_R, reduceIte]
                  refine aw_iload_1 hX dX8_reads_237 ?_
                  refine aw_iload_7 hX dX8_reads_238 ?_
                  refine aw_iast hX dX8_reads_240 rfl (fun _ => rfl) (by decide) (by omega) ?_
                  refine aw_aload_0 hX dX8_reads_241 ?_
                  refine ag_X8_fromOf hX fl_X8_25 dX8_reads_242 ?_
                  try simp +decide only [sN_N, sN_A, sN_L, sN_R, sA_N, sA_A, sA_L, sA_R, sL_N, sL_A, sL_L, sL_R, sR_N, sR_A, sR_L, sR_R, reduceIte]
                  refine aw_iload_1 hX dX8_reads_245 ?_
                  refine aw_iload_2 hX dX8_reads_246 ?_
                  refine aw_iast hX dX8_reads_247 rfl (fun _ => rfl) (by decide) (by omega) ?_
                  first | with_reducible refine aw_iinc_1N hX rfl (by decide) dX8_reads_248 ?_ | refine aw_iinc_1 hX rfl (by decide) dX8_reads_248 ?_
                  refine aw_goto hX (tgt := 14) dX8_reads_251 (by decide) ?_
                  exact ih (iaM S1 n 1 v' fr) (n + 1) fr a' _ _ _ _ h4 rfl rfl hb h15 (by exact hadv.2.1) (by show S1.1 15 ≤ a' + k; omega) (by omega) (by rw [← hp, rdM_i hna hkd (by decide) ((nuM_t c_113 (fun z => c_130 z.2)).trans h)])
                · refine aw_finI (hR pc L hd) ?_ ?_
                  · rw [← hp, rdM_f hna hkd (by decide) ((nuM_t c_113 (fun z => c_130 z.2)).trans h)]
                  · rw [← hp, rdM_f hna hkd (by decide) ((nuM_t c_113 (fun z => c_130 z.2)).trans h)]
              · have hnu := nuM_0 (kd := kdM (S1.2.1 46 a)) (by rw [hkd]; decide) c_130
                refine aw_iload_3 hX dX8_reads_133 ?_
                refine aw_finI (hR _ _ dX8_reads_134) ?_ ?_
                · rw [← hp, rdM_f hna hkd (by decide) (by rw [hkd] at hnu; exact hnu)]
                · rw [← hp, rdM_f hna hkd (by decide) (by rw [hkd] at hnu; exact hnu)]
        · have hkd := kdM_0 c_34
          refine aw_iconst hX (v := nI 0) (by decide) dX8_reads_37 ?_
          refine aw_goto hX (tgt := 86) dX8_reads_38 (by decide) ?_
          refine aw_istore_5 hX rfl (by decide) dX8_reads_86 ?_
          refine aw_iload_5 hX dX8_reads_88 ?_
          refine aw_iconst hX (v := nI 5) (by decide) dX8_reads_90 ?_
          refine aw_icmpne hX (tgt := 96) dX8_reads_91 (by decide) (fun _ => ?_) (fun c => absurd c (by decide))
          first | with_reducible refine aw_iinc_3N hX rfl (by decide) dX8_reads_96 ?_ | refine aw_iinc_3 hX rfl (by decide) dX8_reads_96 ?_
          refine aw_iload_5 hX dX8_reads_99 ?_
          refine aw_iconst hX (v := nI 4) (by decide) dX8_reads_101 ?_
          refine aw_icmpne hX (tgt := 108) dX8_reads_102 (by decide) (fun _ => ?_) (fun c => absurd c (by decide))
          refine aw_aload_0 hX dX8_reads_108 ?_
          refine aw_iload_3 hX dX8_reads_109 ?_
          refine cv_X8_isDigit hX ml_X8_72 dX8_reads_110 (m_X8_isDigit _ G S1 (a + 1) (by omega) (by omega)) (Nat.le_of_ble_eq_true rfl) ?_
          first | with_reducible refine aw_ifeqB hX (tgt := 133) dX8_reads_113 (by decide) (fun c_113 => ?_) (fun c_113 => ?_) | refine aw_ifeq hX (tgt := 133) dX8_reads_113 (by decide) (fun c_113 => ?_) (fun c_113 => ?_)
          · have hnu := nuM_f (kd := kdM (S1.2.1 46 a)) c_113
            refine aw_iload_3 hX dX8_reads_133 ?_
            refine aw_finI (hR _ _ dX8_reads_134) ?_ ?_
            · rw [← hp, rdM_f hna hkd (by decide) (by rw [hkd] at hnu; exact hnu)]
            · rw [← hp, rdM_f hna hkd (by decide) (by rw [hkd] at hnu; exact hnu)]
          · have hcc := isDM_of hb c_113
            refine aw_iload_5 hX dX8_reads_116 ?_
            refine aw_iconst hX (v := nI 3) (by decide) dX8_reads_118 ?_
            refine aw_icmpge hX (tgt := 135) dX8_reads_119 (by decide) (fun c => absurd c (by decide)) (fun _ => ?_)
            refine aw_aload_0 hX dX8_reads_122 ?_
            refine ag_X8_draft hX fl_X8_7 dX8_reads_123 ?_
            refine aw_iload_3 hX dX8_reads_126 ?_
            refine aw_iald hX dX8_reads_127 rfl (by decide) (by omega) ?_
            refine aw_bipush hX (v := nI 48) (by decide) dX8_reads_128 ?_
            refine aw_icmpne hX (tgt := 135) dX8_reads_130 (by decide) (fun c_130 => ?_) (fun c_130 => ?_)
            · skip
              refine aw_iload_5 hX dX8_reads_135 ?_
              refine aw_iconst hX (v := nI 3) (by decide) dX8_reads_137 ?_
              refine aw_icmpne hX (tgt := 147) dX8_reads_138 (by decide) (fun _ => ?_) (fun c => absurd c (by decide))
              refine aw_sipush hX (v := nI 200) (by decide) dX8_reads_147 ?_
              refine aw_istore_6 hX rfl (by decide) dX8_reads_150 ?_
              refine aw_aload_0 hX dX8_reads_152 ?_
              refine ag_X8_draft hX fl_X8_7 dX8_reads_153 ?_
              refine aw_iload_3 hX dX8_reads_156 ?_
              refine aw_iald hX dX8_reads_157 rfl (by decide) (by omega) ?_
              refine aw_ti (hb (a + 1)).1 ?_
              refine aw_bipush hX (v := nI 48) (by decide) dX8_reads_158 ?_
              first | with_reducible refine aw_isubN hX (by omega) dX8_reads_160 ?_ | refine aw_isub hX dX8_reads_160 ?_
              refine aw_istore_7 hX rfl (by decide) dX8_reads_161 ?_
              first | with_reducible refine aw_iinc_3N hX rfl (by decide) dX8_reads_163 ?_ | refine aw_iinc_3 hX rfl (by decide) dX8_reads_163 ?_
              have hnt := isDM_of hb c_113
              refine inner S1 n fr 0 200 (.int (S1.2.1 46 a)) rfl hb h15 (by decide) (by decide) 60 (tn (S1.2.1 46 (a + 1)) - 48) (a + 1 + 1) (by omega) (by omega) (by omega) (fun v' a' h => ?_) (fun v' a' h pc L hd => ?_)
              · have hadv := smM_adv (m := 200) hb 60 (tn (S1.2.1 46 (a + 1)) - 48) (a + 1 + 1) (by omega) (by omega)
                rw [h] at hadv
                have hadv1 : a + 1 + 1 ≤ a' := hadv.1
                have hadv2 : a' ≤ S1.1 15 := hadv.2.1
                have h4 : (Value.int (S1.2.1 46 a)).category = 1 := rfl
                refine aw_iload_5 hX dX8_reads_213 ?_
                refine aw_iconst hX (v := nI 3) (by decide) dX8_reads_215 ?_
                refine aw_icmpne hX (tgt := 225) dX8_reads_216 (by decide) (fun _ => ?_) (fun c => absurd c (by decide))
                refine aw_aload_0 hX dX8_reads_225 ?_
                refine ag_X8_fuelOf hX fl_X8_19 dX8_reads_226 ?_
                refine aw_iload_1 hX dX8_reads_229 ?_
                refine aw_iload_5 hX dX8_reads_230 ?_
                refine aw_iast hX dX8_reads_232 rfl (fun _ => rfl) (by decide) (by omega) ?_
                refine aw_aload_0 hX dX8_reads_233 ?_
                refine ag_X8_spanOf hX fl_X8_22 dX8_reads_234 ?_
                try simp +decide only [sN_N, sN_A, sN_L, sN_R, sA_N, sA_A, sA_L, sA_R, sL_N, sL_A, sL_L, sL_R, sR_N, sR_A, sR_L, sR_R, reduceIte]
                refine aw_iload_1 hX dX8_reads_237 ?_
                refine aw_iload_7 hX dX8_reads_238 ?_
                refine aw_iast hX dX8_reads_240 rfl (fun _ => rfl) (by decide) (by omega) ?_
                refine aw_aload_0 hX dX8_reads_241 ?_
                refine ag_X8_fromOf hX fl_X8_25 dX8_reads_242 ?_
                try simp +decide only [sN_N, sN_A, sN_L, sN_R, sA_N, sA_A, sA_L, sA_R, sL_N, sL_A, sL_L, sL_R, sR_N, sR_A, sR_L, sR_R, reduceIte]
                refine aw_iload_1 hX dX8_reads_245 ?_
                refine aw_iload_2 hX dX8_reads_246 ?_
                refine aw_iast hX dX8_reads_247 rfl (fun _ => rfl) (by decide) (by omega) ?_
                first | with_reducible refine aw_iinc_1N hX rfl (by decide) dX8_reads_248 ?_ | refine aw_iinc_1 hX rfl (by decide) dX8_reads_248 ?_
                refine aw_goto hX (tgt := 14) dX8_reads_251 (by decide) ?_
                exact ih (iaM S1 n 0 v' fr) (n + 1) fr a' _ _ _ _ h4 rfl rfl hb h15 (by exact hadv.2.1) (by show S1.1 15 ≤ a' + k; omega) (by omega) (by rw [← hp, rdM_i hna hkd (by decide) ((nuM_t c_113 (fun z => c_130 z.2)).trans h)])
              · refine aw_finI (hR pc L hd) ?_ ?_
                · rw [← hp, rdM_f hna hkd (by decide) ((nuM_t c_113 (fun z => c_130 z.2)).trans h)]
                · rw [← hp, rdM_f hna hkd (by decide) ((nuM_t c_113 (fun z => c_130 z.2)).trans h)]
            · have hnu := nuM_0 (kd := kdM (S1.2.1 46 a)) (by rw [hkd]; decide) c_130
              refine aw_iload_3 hX dX8_reads_133 ?_
              refine aw_finI (hR _ _ dX8_reads_134) ?_ ?_
              · rw [← hp, rdM_f hna hkd (by decide) (by rw [hkd] at hnu; exact hnu)]
              · rw [← hp, rdM_f hna hkd (by decide) (by rw [hkd] at hnu; exact hnu)]
  refine aw_aload_0 hX dX8_reads_0 ?_
  refine ag_X8_begins hX fl_X8_16 dX8_reads_1 ?_
  refine aw_aload_0 hX dX8_reads_4 ?_
  refine ag_X8_laws hX fl_X8_69 dX8_reads_5 ?_
  refine aw_iald hX dX8_reads_8 rfl (by decide) (by omega) ?_
  refine aw_ti hst ?_
  refine aw_istore_1 hX rfl (by decide) dX8_reads_9 ?_
  refine aw_iconst hX (v := nI 0) (by decide) dX8_reads_10 ?_
  refine aw_istore_2 hX rfl (by decide) dX8_reads_11 ?_
  refine aw_iconst hX (v := nI 0) (by decide) dX8_reads_12 ?_
  refine aw_istore_3 hX rfl (by decide) dX8_reads_13 ?_
  exact loop 60 S _ _ _ _ _ _ _ rfl rfl rfl hb h15 (by omega) (by omega) (by omega) rfl
theorem rdM_N {j : Nat} (h : j ≠ 17) : ∀ (k : Nat) (S : St) (n fr a : Nat), (rdM k S n fr a).2.1 j = S.1 j
  | 0, S, n, fr, a => by simp only [rdM, sN_N, if_neg h]
  | k + 1, S, n, fr, a => by
    unfold rdM
    split
    · simp only [sN_N, if_neg h]
    · split
      · rfl
      · split
        · exact rdM_N h k _ _ _ _
        · split
          · split
            · exact rdM_N h k _ _ _ _
            · rw [rdM_N h k]; rfl
          · rfl
theorem rdM_A {j : Nat} (h : j < 49 ∨ 51 < j) : ∀ (k : Nat) (S : St) (n fr a : Nat), (rdM k S n fr a).2.2.1 j = S.2.1 j
  | 0, S, n, fr, a => rfl
  | k + 1, S, n, fr, a => by
    unfold rdM
    split
    · rfl
    · split
      · rfl
      · split
        · exact rdM_A h k _ _ _ _
        · split
          · split
            · exact rdM_A h k _ _ _ _
            · rw [rdM_A h k, iaM, sA_A, if_neg (by omega), sA_A, if_neg (by omega), sA_A, if_neg (by omega)]
          · rfl
theorem rdM_L : ∀ (k : Nat) (S : St) (n fr a : Nat), (rdM k S n fr a).2.2.2 = S.2.2
  | 0, S, n, fr, a => rfl
  | k + 1, S, n, fr, a => by
    unfold rdM
    split
    · rfl
    · split
      · rfl
      · split
        · exact rdM_L k _ _ _ _
        · split
          · split
            · exact rdM_L k _ _ _ _
            · rw [rdM_L k]; rfl
          · rfl
theorem rdM_14 {k n fr a : Nat} {S : St} : (rdM k S n fr a).2.1 14 = S.1 14 := rdM_N (by decide) k S n fr a
theorem rdM_15 {k n fr a : Nat} {S : St} : (rdM k S n fr a).2.1 15 = S.1 15 := rdM_N (by decide) k S n fr a
theorem rdM_16 {k n fr a : Nat} {S : St} : (rdM k S n fr a).2.1 16 = S.1 16 := rdM_N (by decide) k S n fr a
set_option maxHeartbeats 4000000 in
set_option maxRecDepth 100000 in
theorem m_X8_faultAlone (d : Nat) (G : GT) (S : St) (hb : ByM S) (h15 : S.1 15 ≤ 60) (h16 : S.1 16 ≤ 6) (hst : S.2.1 48 (S.1 16) = nI (tn (S.2.1 48 (S.1 16)))) (hn0 : (tn (S.2.1 48 (S.1 16))) ≤ 180)  : rX8_faultAlone G (d + 3) [.ref (gad G 8)] S (some (.int ((rdM 60 S (tn (S.2.1 48 (S.1 16))) 0 0).1))) (sN (rdM 60 S (tn (S.2.1 48 (S.1 16))) 0 0).2 17 (S.1 17)) := by
  refine runs_I (d := (d + 2)) (by decide) (Nat.le_of_ble_eq_true rfl) (fun X (hX : XC X G (d + 2) RX8 cX8_faultAlone 3) hR => ?_)
  show AW X G 0 [.ref (gad G 8), .null, .null] [] S
  refine aw_aload_0 hX dX8_faultAlone_0 ?_
  refine ag_X8_items hX fl_X8_76 dX8_faultAlone_1 ?_
  refine aw_istore_1 hX rfl (by decide) dX8_faultAlone_4 ?_
  refine aw_aload_0 hX dX8_faultAlone_5 ?_
  refine cv_X8_reads hX ml_X8_83 dX8_faultAlone_6 (m_X8_reads _ G S hb h15 h16 hst hn0) (Nat.le_of_ble_eq_true rfl) ?_
  refine aw_istore_2 hX rfl (by decide) dX8_faultAlone_9 ?_
  refine aw_aload_0 hX dX8_faultAlone_10 ?_
  refine aw_iload_1 hX dX8_faultAlone_11 ?_
  refine ap_X8_items hX fl_X8_76 dX8_faultAlone_12 ?_
  refine aw_iload_2 hX dX8_faultAlone_15 ?_
  refine aw_finI (hR _ _ dX8_faultAlone_16) ?_ ?_
  · rfl
  · rfl
set_option maxHeartbeats 4000000 in
set_option maxRecDepth 100000 in
theorem m_X8_law_empty (d : Nat) (G : GT) (S : St) (h13 : S.1 13 = 0) (h : S.1 15 = 0) : rX8_law G (d + 4) [.ref (gad G 8)] S (some (.int (-2))) S := by
  refine runs_I (d := (d + 3)) (by decide) (Nat.le_of_ble_eq_true rfl) (fun X (hX : XC X G (d + 3) RX8 cX8_law 2) hR => ?_)
  show AW X G 0 [.ref (gad G 8), .null] [] S
  refine aw_aload_0 hX dX8_law_0 ?_
  refine aw_iconst hX (v := nI 0) (by decide) dX8_law_1 ?_
  refine ap_X8_thrown hX fl_X8_57 dX8_law_2 ?_
  refine aw_S (sN_self h13) ?_
  refine aw_aload_0 hX dX8_law_5 ?_
  refine ag_X8_drafted hX fl_X8_64 dX8_law_6 ?_
  first | with_reducible refine aw_ifneB hX (tgt := 15) dX8_law_9 (by decide) (fun c_9 => ?_) (fun c_9 => ?_) | refine aw_ifne hX (tgt := 15) dX8_law_9 (by decide) (fun c_9 => ?_) (fun c_9 => ?_)
  · rw [h] at c_9; exact absurd rfl c_9
  · skip
    refine aw_bipush hX (v := (-2)) (by decide) dX8_law_12 ?_
    refine aw_finI (hR _ _ dX8_law_14) ?_ ?_
    · rfl
    · rfl
set_option maxHeartbeats 4000000 in
set_option maxRecDepth 100000 in
theorem m_X8_law_full (d : Nat) (G : GT) (S : St) (h13 : S.1 13 = 0) (hb : ByM S) (h15 : S.1 15 ≤ 60) (h16 : S.1 16 ≤ 6) (hst : S.2.1 48 (S.1 16) = nI (tn (S.2.1 48 (S.1 16)))) (hn0 : (tn (S.2.1 48 (S.1 16))) ≤ 180) (h : 0 < S.1 15) (h6 : S.1 16 = 6) (hf : (rdM 60 S (tn (S.2.1 48 (S.1 16))) 0 0).1 = -9) : rX8_law G (d + 4) [.ref (gad G 8)] S (some (.int (-3))) (sN (rdM 60 S (tn (S.2.1 48 (S.1 16))) 0 0).2 17 (S.1 17)) := by
  refine runs_I (d := (d + 3)) (by decide) (Nat.le_of_ble_eq_true rfl) (fun X (hX : XC X G (d + 3) RX8 cX8_law 2) hR => ?_)
  show AW X G 0 [.ref (gad G 8), .null] [] S
  refine aw_aload_0 hX dX8_law_0 ?_
  refine aw_iconst hX (v := nI 0) (by decide) dX8_law_1 ?_
  refine ap_X8_thrown hX fl_X8_57 dX8_law_2 ?_
  refine aw_S (sN_self h13) ?_
  refine aw_aload_0 hX dX8_law_5 ?_
  refine ag_X8_drafted hX fl_X8_64 dX8_law_6 ?_
  first | with_reducible refine aw_ifneB hX (tgt := 15) dX8_law_9 (by decide) (fun c_9 => ?_) (fun c_9 => ?_) | refine aw_ifne hX (tgt := 15) dX8_law_9 (by decide) (fun c_9 => ?_) (fun c_9 => ?_)
  · skip
    refine aw_aload_0 hX dX8_law_15 ?_
    refine ag_X8_laws hX fl_X8_69 dX8_law_16 ?_
    refine aw_bipush hX (v := nI 6) (by decide) dX8_law_19 ?_
    first | with_reducible refine aw_icmpneN hX (tgt := 45) dX8_law_21 (by decide) (by omega) (by omega) (fun c_21 => ?_) (fun c_21 => ?_) | refine aw_icmpne hX (tgt := 45) dX8_law_21 (by decide) (fun c_21 => ?_) (fun c_21 => ?_)
    · exact absurd h6 c_21
    · skip
      refine aw_aload_0 hX dX8_law_24 ?_
      refine cv_X8_faultAlone hX ml_X8_79 dX8_law_25 (m_X8_faultAlone _ G S hb h15 h16 hst hn0) (Nat.le_of_ble_eq_true rfl) ?_
      refine aw_istore_1 hX rfl (by decide) dX8_law_28 ?_
      refine aw_iload_1 hX dX8_law_29 ?_
      refine aw_bipush hX (v := (-9)) (by decide) dX8_law_30 ?_
      first | with_reducible refine aw_icmpneN hX (tgt := 40) dX8_law_32 (by decide) (by omega) (by omega) (fun c_32 => ?_) (fun c_32 => ?_) | refine aw_icmpne hX (tgt := 40) dX8_law_32 (by decide) (fun c_32 => ?_) (fun c_32 => ?_)
      · exact absurd hf c_32
      · skip
        refine aw_bipush hX (v := (-3)) (by decide) dX8_law_35 ?_
        refine aw_goto hX (tgt := 44) dX8_law_37 (by decide) ?_
        refine aw_finI (hR _ _ dX8_law_44) ?_ ?_
        · rfl
        · rfl
  · exact absurd c_9 (nI_ne0 (by omega) (by omega))
set_option maxHeartbeats 4000000 in
set_option maxRecDepth 100000 in
theorem m_X8_law_fault6 (d : Nat) (G : GT) (S : St) (h13 : S.1 13 = 0) (hb : ByM S) (h15 : S.1 15 ≤ 60) (h16 : S.1 16 ≤ 6) (hst : S.2.1 48 (S.1 16) = nI (tn (S.2.1 48 (S.1 16)))) (hn0 : (tn (S.2.1 48 (S.1 16))) ≤ 180) (h : 0 < S.1 15) (h6 : S.1 16 = 6) (hf : ¬ (rdM 60 S (tn (S.2.1 48 (S.1 16))) 0 0).1 = -9) : rX8_law G (d + 4) [.ref (gad G 8)] S (some (.int ((-100) - (rdM 60 S (tn (S.2.1 48 (S.1 16))) 0 0).1))) (sN (rdM 60 S (tn (S.2.1 48 (S.1 16))) 0 0).2 17 (S.1 17)) := by
  refine runs_I (d := (d + 3)) (by decide) (Nat.le_of_ble_eq_true rfl) (fun X (hX : XC X G (d + 3) RX8 cX8_law 2) hR => ?_)
  show AW X G 0 [.ref (gad G 8), .null] [] S
  refine aw_aload_0 hX dX8_law_0 ?_
  refine aw_iconst hX (v := nI 0) (by decide) dX8_law_1 ?_
  refine ap_X8_thrown hX fl_X8_57 dX8_law_2 ?_
  refine aw_S (sN_self h13) ?_
  refine aw_aload_0 hX dX8_law_5 ?_
  refine ag_X8_drafted hX fl_X8_64 dX8_law_6 ?_
  first | with_reducible refine aw_ifneB hX (tgt := 15) dX8_law_9 (by decide) (fun c_9 => ?_) (fun c_9 => ?_) | refine aw_ifne hX (tgt := 15) dX8_law_9 (by decide) (fun c_9 => ?_) (fun c_9 => ?_)
  · skip
    refine aw_aload_0 hX dX8_law_15 ?_
    refine ag_X8_laws hX fl_X8_69 dX8_law_16 ?_
    refine aw_bipush hX (v := nI 6) (by decide) dX8_law_19 ?_
    first | with_reducible refine aw_icmpneN hX (tgt := 45) dX8_law_21 (by decide) (by omega) (by omega) (fun c_21 => ?_) (fun c_21 => ?_) | refine aw_icmpne hX (tgt := 45) dX8_law_21 (by decide) (fun c_21 => ?_) (fun c_21 => ?_)
    · exact absurd h6 c_21
    · skip
      refine aw_aload_0 hX dX8_law_24 ?_
      refine cv_X8_faultAlone hX ml_X8_79 dX8_law_25 (m_X8_faultAlone _ G S hb h15 h16 hst hn0) (Nat.le_of_ble_eq_true rfl) ?_
      refine aw_istore_1 hX rfl (by decide) dX8_law_28 ?_
      refine aw_iload_1 hX dX8_law_29 ?_
      refine aw_bipush hX (v := (-9)) (by decide) dX8_law_30 ?_
      first | with_reducible refine aw_icmpneN hX (tgt := 40) dX8_law_32 (by decide) (by omega) (by omega) (fun c_32 => ?_) (fun c_32 => ?_) | refine aw_icmpne hX (tgt := 40) dX8_law_32 (by decide) (fun c_32 => ?_) (fun c_32 => ?_)
      · skip
        refine aw_bipush hX (v := (-100)) (by decide) dX8_law_40 ?_
        refine aw_iload_1 hX dX8_law_42 ?_
        refine aw_isub hX dX8_law_43 ?_
        refine aw_finI (hR _ _ dX8_law_44) ?_ ?_
        · rfl
        · rfl
      · exact absurd c_32 hf
  · exact absurd c_9 (nI_ne0 (by omega) (by omega))
set_option maxHeartbeats 4000000 in
set_option maxRecDepth 100000 in
theorem m_X8_law_fault (d : Nat) (G : GT) (S : St) (h13 : S.1 13 = 0) (hb : ByM S) (h15 : S.1 15 ≤ 60) (h16 : S.1 16 ≤ 6) (hst : S.2.1 48 (S.1 16) = nI (tn (S.2.1 48 (S.1 16)))) (hn0 : (tn (S.2.1 48 (S.1 16))) ≤ 180) (h : 0 < S.1 15) (h6 : S.1 16 < 6) (hf : ¬ (rdM 60 S (tn (S.2.1 48 (S.1 16))) 0 0).1 = -9) : rX8_law G (d + 4) [.ref (gad G 8)] S (some (.int ((-100) - (rdM 60 S (tn (S.2.1 48 (S.1 16))) 0 0).1))) (rdM 60 S (tn (S.2.1 48 (S.1 16))) 0 0).2 := by
  refine runs_I (d := (d + 3)) (by decide) (Nat.le_of_ble_eq_true rfl) (fun X (hX : XC X G (d + 3) RX8 cX8_law 2) hR => ?_)
  show AW X G 0 [.ref (gad G 8), .null] [] S
  refine aw_aload_0 hX dX8_law_0 ?_
  refine aw_iconst hX (v := nI 0) (by decide) dX8_law_1 ?_
  refine ap_X8_thrown hX fl_X8_57 dX8_law_2 ?_
  refine aw_S (sN_self h13) ?_
  refine aw_aload_0 hX dX8_law_5 ?_
  refine ag_X8_drafted hX fl_X8_64 dX8_law_6 ?_
  first | with_reducible refine aw_ifneB hX (tgt := 15) dX8_law_9 (by decide) (fun c_9 => ?_) (fun c_9 => ?_) | refine aw_ifne hX (tgt := 15) dX8_law_9 (by decide) (fun c_9 => ?_) (fun c_9 => ?_)
  · skip
    refine aw_aload_0 hX dX8_law_15 ?_
    refine ag_X8_laws hX fl_X8_69 dX8_law_16 ?_
    refine aw_bipush hX (v := nI 6) (by decide) dX8_law_19 ?_
    first | with_reducible refine aw_icmpneN hX (tgt := 45) dX8_law_21 (by decide) (by omega) (by omega) (fun c_21 => ?_) (fun c_21 => ?_) | refine aw_icmpne hX (tgt := 45) dX8_law_21 (by decide) (fun c_21 => ?_) (fun c_21 => ?_)
    · skip
      refine aw_aload_0 hX dX8_law_45 ?_
      refine cv_X8_reads hX ml_X8_83 dX8_law_46 (m_X8_reads _ G S hb h15 h16 hst hn0) (Nat.le_of_ble_eq_true rfl) ?_
      refine aw_istore_1 hX rfl (by decide) dX8_law_49 ?_
      refine aw_iload_1 hX dX8_law_50 ?_
      refine aw_bipush hX (v := (-9)) (by decide) dX8_law_51 ?_
      first | with_reducible refine aw_icmpeqN hX (tgt := 61) dX8_law_53 (by decide) (by omega) (by omega) (fun c_53 => ?_) (fun c_53 => ?_) | refine aw_icmpeq hX (tgt := 61) dX8_law_53 (by decide) (fun c_53 => ?_) (fun c_53 => ?_)
      · exact absurd c_53 hf
      · skip
        refine aw_bipush hX (v := (-100)) (by decide) dX8_law_56 ?_
        refine aw_iload_1 hX dX8_law_58 ?_
        refine aw_isub hX dX8_law_59 ?_
        refine aw_finI (hR _ _ dX8_law_60) ?_ ?_
        · rfl
        · rfl
    · exact absurd c_21 (by omega)
  · exact absurd c_9 (nI_ne0 (by omega) (by omega))
set_option maxHeartbeats 4000000 in
set_option maxRecDepth 100000 in
theorem m_X8_law_ok (d : Nat) (G : GT) (S : St) (h13 : S.1 13 = 0) (hb : ByM S) (h15 : S.1 15 ≤ 60) (h16 : S.1 16 ≤ 6) (hst : S.2.1 48 (S.1 16) = nI (tn (S.2.1 48 (S.1 16)))) (hn0 : (tn (S.2.1 48 (S.1 16))) ≤ 180) (h : 0 < S.1 15) (h6 : S.1 16 < 6) (hf : (rdM 60 S (tn (S.2.1 48 (S.1 16))) 0 0).1 = -9) : rX8_law G (d + 4) [.ref (gad G 8)] S (some (.int (nI (S.1 16)))) (sN (sA (sN (sA (rdM 60 S (tn (S.2.1 48 (S.1 16))) 0 0).2 47 (S.1 16) (nI (S.1 14))) 16 (S.1 16 + 1)) 48 (S.1 16 + 1) (nI ((rdM 60 S (tn (S.2.1 48 (S.1 16))) 0 0).2.1 17))) 15 0) := by
  refine runs_I (d := (d + 3)) (by decide) (Nat.le_of_ble_eq_true rfl) (fun X (hX : XC X G (d + 3) RX8 cX8_law 2) hR => ?_)
  show AW X G 0 [.ref (gad G 8), .null] [] S
  refine aw_aload_0 hX dX8_law_0 ?_
  refine aw_iconst hX (v := nI 0) (by decide) dX8_law_1 ?_
  refine ap_X8_thrown hX fl_X8_57 dX8_law_2 ?_
  refine aw_S (sN_self h13) ?_
  refine aw_aload_0 hX dX8_law_5 ?_
  refine ag_X8_drafted hX fl_X8_64 dX8_law_6 ?_
  first | with_reducible refine aw_ifneB hX (tgt := 15) dX8_law_9 (by decide) (fun c_9 => ?_) (fun c_9 => ?_) | refine aw_ifne hX (tgt := 15) dX8_law_9 (by decide) (fun c_9 => ?_) (fun c_9 => ?_)
  · skip
    refine aw_aload_0 hX dX8_law_15 ?_
    refine ag_X8_laws hX fl_X8_69 dX8_law_16 ?_
    refine aw_bipush hX (v := nI 6) (by decide) dX8_law_19 ?_
    first | with_reducible refine aw_icmpneN hX (tgt := 45) dX8_law_21 (by decide) (by omega) (by omega) (fun c_21 => ?_) (fun c_21 => ?_) | refine aw_icmpne hX (tgt := 45) dX8_law_21 (by decide) (fun c_21 => ?_) (fun c_21 => ?_)
    · skip
      refine aw_aload_0 hX dX8_law_45 ?_
      refine cv_X8_reads hX ml_X8_83 dX8_law_46 (m_X8_reads _ G S hb h15 h16 hst hn0) (Nat.le_of_ble_eq_true rfl) ?_
      refine aw_istore_1 hX rfl (by decide) dX8_law_49 ?_
      refine aw_iload_1 hX dX8_law_50 ?_
      refine aw_bipush hX (v := (-9)) (by decide) dX8_law_51 ?_
      first | with_reducible refine aw_icmpeqN hX (tgt := 61) dX8_law_53 (by decide) (by omega) (by omega) (fun c_53 => ?_) (fun c_53 => ?_) | refine aw_icmpeq hX (tgt := 61) dX8_law_53 (by decide) (fun c_53 => ?_) (fun c_53 => ?_)
      · skip
        refine aw_aload_0 hX dX8_law_61 ?_
        refine ag_X8_lawOn hX fl_X8_13 dX8_law_62 ?_
        try simp +decide only [sN_N, sN_A, sN_L, sN_R, sA_N, sA_A, sA_L, sA_R, sL_N, sL_A, sL_L, sL_R, sR_N, sR_A, sR_L, sR_R, reduceIte, rdM_14, rdM_16]
        refine aw_aload_0 hX dX8_law_65 ?_
        refine ag_X8_laws hX fl_X8_69 dX8_law_66 ?_
        try simp +decide only [sN_N, sN_A, sN_L, sN_R, sA_N, sA_A, sA_L, sA_R, sL_N, sL_A, sL_L, sL_R, sR_N, sR_A, sR_L, sR_R, reduceIte, rdM_14, rdM_16]
        refine aw_aload_0 hX dX8_law_69 ?_
        refine ag_X8_today hX fl_X8_86 dX8_law_70 ?_
        try simp +decide only [sN_N, sN_A, sN_L, sN_R, sA_N, sA_A, sA_L, sA_R, sL_N, sL_A, sL_L, sL_R, sR_N, sR_A, sR_L, sR_R, reduceIte, rdM_14, rdM_16]
        refine aw_iast hX dX8_law_73 rfl (fun _ => rfl) (by decide) (by omega) ?_
        refine aw_aload_0 hX dX8_law_74 ?_
        refine aw_dup hX rfl dX8_law_75 ?_
        refine ag_X8_laws hX fl_X8_69 dX8_law_76 ?_
        try simp +decide only [sN_N, sN_A, sN_L, sN_R, sA_N, sA_A, sA_L, sA_R, sL_N, sL_A, sL_L, sL_R, sR_N, sR_A, sR_L, sR_R, reduceIte, rdM_14, rdM_16]
        refine aw_iconst hX (v := nI 1) (by decide) dX8_law_79 ?_
        first | with_reducible refine aw_iaddN hX dX8_law_80 ?_ | refine aw_iadd hX dX8_law_80 ?_
        refine ap_X8_laws hX fl_X8_69 dX8_law_81 ?_
        refine aw_aload_0 hX dX8_law_84 ?_
        refine ag_X8_begins hX fl_X8_16 dX8_law_85 ?_
        try simp +decide only [sN_N, sN_A, sN_L, sN_R, sA_N, sA_A, sA_L, sA_R, sL_N, sL_A, sL_L, sL_R, sR_N, sR_A, sR_L, sR_R, reduceIte, rdM_14, rdM_16]
        refine aw_aload_0 hX dX8_law_88 ?_
        refine ag_X8_laws hX fl_X8_69 dX8_law_89 ?_
        try simp +decide only [sN_N, sN_A, sN_L, sN_R, sA_N, sA_A, sA_L, sA_R, sL_N, sL_A, sL_L, sL_R, sR_N, sR_A, sR_L, sR_R, reduceIte, rdM_14, rdM_16]
        refine aw_aload_0 hX dX8_law_92 ?_
        refine ag_X8_items hX fl_X8_76 dX8_law_93 ?_
        try simp +decide only [sN_N, sN_A, sN_L, sN_R, sA_N, sA_A, sA_L, sA_R, sL_N, sL_A, sL_L, sL_R, sR_N, sR_A, sR_L, sR_R, reduceIte, rdM_14, rdM_16]
        refine aw_iast hX dX8_law_96 rfl (fun _ => rfl) (by decide) (by omega) ?_
        refine aw_aload_0 hX dX8_law_97 ?_
        refine aw_iconst hX (v := nI 0) (by decide) dX8_law_98 ?_
        refine ap_X8_drafted hX fl_X8_64 dX8_law_99 ?_
        refine aw_aload_0 hX dX8_law_102 ?_
        refine ag_X8_laws hX fl_X8_69 dX8_law_103 ?_
        try simp +decide only [sN_N, sN_A, sN_L, sN_R, sA_N, sA_A, sA_L, sA_R, sL_N, sL_A, sL_L, sL_R, sR_N, sR_A, sR_L, sR_R, reduceIte, rdM_14, rdM_16]
        refine aw_iconst hX (v := nI 1) (by decide) dX8_law_106 ?_
        first | with_reducible refine aw_isubN hX (by omega) dX8_law_107 ?_ | refine aw_isub hX dX8_law_107 ?_
        refine aw_finI (hR _ _ dX8_law_108) ?_ ?_
        · first | rfl | simp
        · rfl
      · exact absurd hf c_53
    · exact absurd c_21 (by omega)
  · exact absurd c_9 (nI_ne0 (by omega) (by omega))
set_option maxHeartbeats 4000000 in
set_option maxRecDepth 100000 in
theorem m_X7_law_empty (d : Nat) (G : GT) (S : St) (h : S.1 2 = 0) : rX7_law G (d + 6) [.ref (gad G 0)] S (some (.int (-2))) S := by
  refine runs_I (d := (d + 5)) (by decide) (Nat.le_of_ble_eq_true rfl) (fun X (hX : XC X G (d + 5) RX7 cX7_law 3) hR => ?_)
  show AW X G 0 [.ref (gad G 0), .null, .null] [] S
  refine aw_aload_0 hX dX7_law_0 ?_
  refine ag_X7_draft hX fl_X7_10 dX7_law_1 ?_
  refine ag_X0_size hX fl_X7_85 dX7_law_4 ?_
  first | with_reducible refine aw_ifneB hX (tgt := 13) dX7_law_7 (by decide) (fun c_7 => ?_) (fun c_7 => ?_) | refine aw_ifne hX (tgt := 13) dX7_law_7 (by decide) (fun c_7 => ?_) (fun c_7 => ?_)
  · rw [h] at c_7; exact absurd rfl c_7
  · skip
    refine aw_bipush hX (v := (-2)) (by decide) dX7_law_10 ?_
    refine aw_finI (hR _ _ dX7_law_12) ?_ ?_
    · rfl
    · rfl
set_option maxHeartbeats 4000000 in
set_option maxRecDepth 100000 in
theorem m_X7_law_fault (d : Nat) (G : GT) (S : St) (hok : OkP (sN (sN (sN S 3 0) 4 0) 5 0)) (hq : ∀ S1 : St, OkP S1 → S1.1 4 < S1.1 2 → ((rnX S1 0 500).1 = true → (rnX S1 0 500).2.2.2.2 0 = nI (tn ((rnX S1 0 500).2.2.2.2 0))) ∧ ((rsX S1 (S1.2.1 10 (S1.1 4))).1 = true → OkP (rsX S1 (S1.2.1 10 (S1.1 4))).2 ∧ S1.1 4 < (rsX S1 (S1.2.1 10 (S1.1 4))).2.1 4)) (h : 0 < S.1 2) (h2 : S.1 2 ≤ 60) (hf : ¬ (riX 60 (sN (sN (sN S 3 0) 4 0) 5 0)).1 = -9) : rX7_law G (d + 6) [.ref (gad G 0)] S (some (.int ((-100) - (riX 60 (sN (sN (sN S 3 0) 4 0) 5 0)).1))) (riX 60 (sN (sN (sN S 3 0) 4 0) 5 0)).2 := by
  refine runs_I (d := (d + 5)) (by decide) (Nat.le_of_ble_eq_true rfl) (fun X (hX : XC X G (d + 5) RX7 cX7_law 3) hR => ?_)
  show AW X G 0 [.ref (gad G 0), .null, .null] [] S
  refine aw_aload_0 hX dX7_law_0 ?_
  refine ag_X7_draft hX fl_X7_10 dX7_law_1 ?_
  refine ag_X0_size hX fl_X7_85 dX7_law_4 ?_
  first | with_reducible refine aw_ifneB hX (tgt := 13) dX7_law_7 (by decide) (fun c_7 => ?_) (fun c_7 => ?_) | refine aw_ifne hX (tgt := 13) dX7_law_7 (by decide) (fun c_7 => ?_) (fun c_7 => ?_)
  · skip
    refine aw_aload_0 hX dX7_law_13 ?_
    refine ag_X7_draft hX fl_X7_10 dX7_law_14 ?_
    refine cv_X0_readItems hX ml_X7_92 dX7_law_17 (m_X0_readItems _ G S hok hq) (Nat.le_of_ble_eq_true rfl) ?_
    refine aw_istore_1 hX rfl (by decide) dX7_law_20 ?_
    refine aw_iload_1 hX dX7_law_21 ?_
    refine aw_bipush hX (v := (-9)) (by decide) dX7_law_22 ?_
    first | with_reducible refine aw_icmpeqN hX (tgt := 32) dX7_law_24 (by decide) (by omega) (by omega) (fun c_24 => ?_) (fun c_24 => ?_) | refine aw_icmpeq hX (tgt := 32) dX7_law_24 (by decide) (fun c_24 => ?_) (fun c_24 => ?_)
    · exact absurd c_24 hf
    · skip
      refine aw_bipush hX (v := (-100)) (by decide) dX7_law_27 ?_
      refine aw_iload_1 hX dX7_law_29 ?_
      refine aw_isub hX dX7_law_30 ?_
      refine aw_finI (hR _ _ dX7_law_31) ?_ ?_
      · rfl
      · rfl
  · exact absurd c_7 (nI_ne0 (by omega) (by omega))
set_option maxHeartbeats 4000000 in
set_option maxRecDepth 100000 in
theorem m_X7_law_full (d : Nat) (G : GT) (S : St) (hok : OkP (sN (sN (sN S 3 0) 4 0) 5 0)) (hq : ∀ S1 : St, OkP S1 → S1.1 4 < S1.1 2 → ((rnX S1 0 500).1 = true → (rnX S1 0 500).2.2.2.2 0 = nI (tn ((rnX S1 0 500).2.2.2.2 0))) ∧ ((rsX S1 (S1.2.1 10 (S1.1 4))).1 = true → OkP (rsX S1 (S1.2.1 10 (S1.1 4))).2 ∧ S1.1 4 < (rsX S1 (S1.2.1 10 (S1.1 4))).2.1 4)) (h : 0 < S.1 2) (h2 : S.1 2 ≤ 60) (hf : (riX 60 (sN (sN (sN S 3 0) 4 0) 5 0)).1 = -9) (h6 : (riX 60 (sN (sN (sN S 3 0) 4 0) 5 0)).2.1 6 = 6) : rX7_law G (d + 6) [.ref (gad G 0)] S (some (.int (-3))) (riX 60 (sN (sN (sN S 3 0) 4 0) 5 0)).2 := by
  refine runs_I (d := (d + 5)) (by decide) (Nat.le_of_ble_eq_true rfl) (fun X (hX : XC X G (d + 5) RX7 cX7_law 3) hR => ?_)
  show AW X G 0 [.ref (gad G 0), .null, .null] [] S
  refine aw_aload_0 hX dX7_law_0 ?_
  refine ag_X7_draft hX fl_X7_10 dX7_law_1 ?_
  refine ag_X0_size hX fl_X7_85 dX7_law_4 ?_
  first | with_reducible refine aw_ifneB hX (tgt := 13) dX7_law_7 (by decide) (fun c_7 => ?_) (fun c_7 => ?_) | refine aw_ifne hX (tgt := 13) dX7_law_7 (by decide) (fun c_7 => ?_) (fun c_7 => ?_)
  · skip
    refine aw_aload_0 hX dX7_law_13 ?_
    refine ag_X7_draft hX fl_X7_10 dX7_law_14 ?_
    refine cv_X0_readItems hX ml_X7_92 dX7_law_17 (m_X0_readItems _ G S hok hq) (Nat.le_of_ble_eq_true rfl) ?_
    refine aw_istore_1 hX rfl (by decide) dX7_law_20 ?_
    refine aw_iload_1 hX dX7_law_21 ?_
    refine aw_bipush hX (v := (-9)) (by decide) dX7_law_22 ?_
    first | with_reducible refine aw_icmpeqN hX (tgt := 32) dX7_law_24 (by decide) (by omega) (by omega) (fun c_24 => ?_) (fun c_24 => ?_) | refine aw_icmpeq hX (tgt := 32) dX7_law_24 (by decide) (fun c_24 => ?_) (fun c_24 => ?_)
    · skip
      refine aw_aload_0 hX dX7_law_32 ?_
      refine ag_X7_book hX fl_X7_19 dX7_law_33 ?_
      refine cv_X3_isFull hX ml_X7_95 dX7_law_36 (m_X3_isFull _ G (riX 60 (sN (sN (sN S 3 0) 4 0) 5 0)).2 (by omega)) (Nat.le_of_ble_eq_true rfl) ?_
      first | with_reducible refine aw_ifeqB hX (tgt := 45) dX7_law_39 (by decide) (fun c_39 => ?_) (fun c_39 => ?_) | refine aw_ifeq hX (tgt := 45) dX7_law_39 (by decide) (fun c_39 => ?_) (fun c_39 => ?_)
      · exact absurd c_39 (by simp; omega)
      · skip
        refine aw_bipush hX (v := (-3)) (by decide) dX7_law_42 ?_
        refine aw_finI (hR _ _ dX7_law_44) ?_ ?_
        · rfl
        · rfl
    · exact absurd hf c_24
  · exact absurd c_7 (nI_ne0 (by omega) (by omega))
set_option maxHeartbeats 4000000 in
set_option maxRecDepth 100000 in
theorem m_X7_law_ok (d : Nat) (G : GT) (S : St) (hok : OkP (sN (sN (sN S 3 0) 4 0) 5 0)) (hq : ∀ S1 : St, OkP S1 → S1.1 4 < S1.1 2 → ((rnX S1 0 500).1 = true → (rnX S1 0 500).2.2.2.2 0 = nI (tn ((rnX S1 0 500).2.2.2.2 0))) ∧ ((rsX S1 (S1.2.1 10 (S1.1 4))).1 = true → OkP (rsX S1 (S1.2.1 10 (S1.1 4))).2 ∧ S1.1 4 < (rsX S1 (S1.2.1 10 (S1.1 4))).2.1 4)) (h : 0 < S.1 2) (h2 : S.1 2 ≤ 60) (hf : (riX 60 (sN (sN (sN S 3 0) 4 0) 5 0)).1 = -9) (h6 : (riX 60 (sN (sN (sN S 3 0) 4 0) 5 0)).2.1 6 < 6) (e : Nat) (he : (riX 60 (sN (sN (sN S 3 0) 4 0) 5 0)).2.2.1 15 ((riX 60 (sN (sN (sN S 3 0) 4 0) 5 0)).2.1 6) = nI e) (hn : (riX 60 (sN (sN (sN S 3 0) 4 0) 5 0)).2.1 3 ≤ 30) (hen : e + (riX 60 (sN (sN (sN S 3 0) 4 0) 5 0)).2.1 3 ≤ 180) : rX7_law G (d + 6) [.ref (gad G 0)] S (some (.int (nI ((riX 60 (sN (sN (sN S 3 0) 4 0) 5 0)).2.1 6)))) (sN (sA (sN (sA (cpS e (riX 60 (sN (sN (sN S 3 0) 4 0) 5 0)).2 ((riX 60 (sN (sN (sN S 3 0) 4 0) 5 0)).2.1 3)) 14 ((riX 60 (sN (sN (sN S 3 0) 4 0) 5 0)).2.1 6) (nI ((riX 60 (sN (sN (sN S 3 0) 4 0) 5 0)).2.1 0))) 6 ((riX 60 (sN (sN (sN S 3 0) 4 0) 5 0)).2.1 6 + 1)) 15 ((riX 60 (sN (sN (sN S 3 0) 4 0) 5 0)).2.1 6 + 1) (nI (e + (riX 60 (sN (sN (sN S 3 0) 4 0) 5 0)).2.1 3))) 2 0) := by
  refine runs_I (d := (d + 5)) (by decide) (Nat.le_of_ble_eq_true rfl) (fun X (hX : XC X G (d + 5) RX7 cX7_law 3) hR => ?_)
  show AW X G 0 [.ref (gad G 0), .null, .null] [] S
  refine aw_aload_0 hX dX7_law_0 ?_
  refine ag_X7_draft hX fl_X7_10 dX7_law_1 ?_
  refine ag_X0_size hX fl_X7_85 dX7_law_4 ?_
  first | with_reducible refine aw_ifneB hX (tgt := 13) dX7_law_7 (by decide) (fun c_7 => ?_) (fun c_7 => ?_) | refine aw_ifne hX (tgt := 13) dX7_law_7 (by decide) (fun c_7 => ?_) (fun c_7 => ?_)
  · skip
    refine aw_aload_0 hX dX7_law_13 ?_
    refine ag_X7_draft hX fl_X7_10 dX7_law_14 ?_
    refine cv_X0_readItems hX ml_X7_92 dX7_law_17 (m_X0_readItems _ G S hok hq) (Nat.le_of_ble_eq_true rfl) ?_
    refine aw_istore_1 hX rfl (by decide) dX7_law_20 ?_
    refine aw_iload_1 hX dX7_law_21 ?_
    refine aw_bipush hX (v := (-9)) (by decide) dX7_law_22 ?_
    first | with_reducible refine aw_icmpeqN hX (tgt := 32) dX7_law_24 (by decide) (by omega) (by omega) (fun c_24 => ?_) (fun c_24 => ?_) | refine aw_icmpeq hX (tgt := 32) dX7_law_24 (by decide) (fun c_24 => ?_) (fun c_24 => ?_)
    · skip
      refine aw_aload_0 hX dX7_law_32 ?_
      refine ag_X7_book hX fl_X7_19 dX7_law_33 ?_
      refine cv_X3_isFull hX ml_X7_95 dX7_law_36 (m_X3_isFull _ G (riX 60 (sN (sN (sN S 3 0) 4 0) 5 0)).2 (by omega)) (Nat.le_of_ble_eq_true rfl) ?_
      first | with_reducible refine aw_ifeqB hX (tgt := 45) dX7_law_39 (by decide) (fun c_39 => ?_) (fun c_39 => ?_) | refine aw_ifeq hX (tgt := 45) dX7_law_39 (by decide) (fun c_39 => ?_) (fun c_39 => ?_)
      · skip
        refine aw_aload_0 hX dX7_law_45 ?_
        refine ag_X7_book hX fl_X7_19 dX7_law_46 ?_
        refine aw_aload_0 hX dX7_law_49 ?_
        refine ag_X7_draft hX fl_X7_10 dX7_law_50 ?_
        refine aw_aload_0 hX dX7_law_53 ?_
        refine ag_X7_today hX fl_X7_62 dX7_law_54 ?_
        refine cv_X3_add hX ml_X7_99 dX7_law_57 (m_X3_add _ G (riX 60 (sN (sN (sN S 3 0) 4 0) 5 0)).2 e _ he h6 hn hen) (Nat.le_of_ble_eq_true rfl) ?_
        refine aw_istore_2 hX rfl (by decide) dX7_law_60 ?_
        refine aw_aload_0 hX dX7_law_61 ?_
        refine ag_X7_draft hX fl_X7_10 dX7_law_62 ?_
        refine cv_X0_empty hX ml_X7_88 dX7_law_65 (m_X0_empty _ G (sA (sN (sA (cpS e (riX 60 (sN (sN (sN S 3 0) 4 0) 5 0)).2 ((riX 60 (sN (sN (sN S 3 0) 4 0) 5 0)).2.1 3)) 14 ((riX 60 (sN (sN (sN S 3 0) 4 0) 5 0)).2.1 6) (nI ((riX 60 (sN (sN (sN S 3 0) 4 0) 5 0)).2.1 0))) 6 ((riX 60 (sN (sN (sN S 3 0) 4 0) 5 0)).2.1 6 + 1)) 15 ((riX 60 (sN (sN (sN S 3 0) 4 0) 5 0)).2.1 6 + 1) (nI (e + (riX 60 (sN (sN (sN S 3 0) 4 0) 5 0)).2.1 3)))) (Nat.le_of_ble_eq_true rfl) ?_
        refine aw_pop hX rfl dX7_law_68 ?_
        refine aw_iload_2 hX dX7_law_69 ?_
        refine aw_finI (hR _ _ dX7_law_70) ?_ ?_
        · rfl
        · rfl
      · exact absurd c_39 (by simp; omega)
    · exact absurd hf c_24
  · exact absurd c_7 (nI_ne0 (by omega) (by omega))
