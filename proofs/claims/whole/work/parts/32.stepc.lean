def xfl (S : St) (k f h_ w b x y hd : Int32) : St := sN (sA (sA (sA (sA (sA (sA (sA (sA (sA (sA S 19 (S.1 7) k) 20 (S.1 7) f) 21 (S.1 7) h_) 22 (S.1 7) w) 23 (S.1 7) b) 24 (S.1 7) x) 25 (S.1 7) y) 26 (S.1 7) hd) 27 (S.1 7) (nI (S.1 0))) 28 (S.1 7) (nI 0)) 7 (S.1 7 + 1)
def mfl (S : St) (n : Nat) (t : Int32) (k f h_ w b x y hd : Int32) : St := sA (sA (sA (sA (sA (sA (sA (sA (sA (sA (sA (S) 52 (11 * n) (k)) 52 (11 * n + 1) (f)) 52 (11 * n + 2) (h_)) 52 (11 * n + 3) (w)) 52 (11 * n + 4) (b)) 52 (11 * n + 5) (x)) 52 (11 * n + 6) (y)) 52 (11 * n + 7) (hd)) 52 (11 * n + 8) (t)) 52 (11 * n + 9) (t)) 52 (11 * n + 10) (nI 0)
theorem mfl_0 {S : St} {n j : Nat} {t : Int32} {k f h_ w b x y hd : Int32} : ofM (mfl S n t k f h_ w b x y hd) j 0 = if j = n then k else ofM S j 0 := by
  unfold mfl
  simp +decide only [of52, of52z, and_true, and_false, if_false, reduceIte]
theorem mfl_1 {S : St} {n j : Nat} {t : Int32} {k f h_ w b x y hd : Int32} : ofM (mfl S n t k f h_ w b x y hd) j 1 = if j = n then f else ofM S j 1 := by
  unfold mfl
  simp +decide only [of52, of52z, and_true, and_false, if_false, reduceIte]
theorem mfl_2 {S : St} {n j : Nat} {t : Int32} {k f h_ w b x y hd : Int32} : ofM (mfl S n t k f h_ w b x y hd) j 2 = if j = n then h_ else ofM S j 2 := by
  unfold mfl
  simp +decide only [of52, of52z, and_true, and_false, if_false, reduceIte]
theorem mfl_3 {S : St} {n j : Nat} {t : Int32} {k f h_ w b x y hd : Int32} : ofM (mfl S n t k f h_ w b x y hd) j 3 = if j = n then w else ofM S j 3 := by
  unfold mfl
  simp +decide only [of52, of52z, and_true, and_false, if_false, reduceIte]
theorem mfl_4 {S : St} {n j : Nat} {t : Int32} {k f h_ w b x y hd : Int32} : ofM (mfl S n t k f h_ w b x y hd) j 4 = if j = n then b else ofM S j 4 := by
  unfold mfl
  simp +decide only [of52, of52z, and_true, and_false, if_false, reduceIte]
theorem mfl_5 {S : St} {n j : Nat} {t : Int32} {k f h_ w b x y hd : Int32} : ofM (mfl S n t k f h_ w b x y hd) j 5 = if j = n then x else ofM S j 5 := by
  unfold mfl
  simp +decide only [of52, of52z, and_true, and_false, if_false, reduceIte]
theorem mfl_6 {S : St} {n j : Nat} {t : Int32} {k f h_ w b x y hd : Int32} : ofM (mfl S n t k f h_ w b x y hd) j 6 = if j = n then y else ofM S j 6 := by
  unfold mfl
  simp +decide only [of52, of52z, and_true, and_false, if_false, reduceIte]
theorem mfl_7 {S : St} {n j : Nat} {t : Int32} {k f h_ w b x y hd : Int32} : ofM (mfl S n t k f h_ w b x y hd) j 7 = if j = n then hd else ofM S j 7 := by
  unfold mfl
  simp +decide only [of52, of52z, and_true, and_false, if_false, reduceIte]
theorem mfl_8 {S : St} {n j : Nat} {t : Int32} {k f h_ w b x y hd : Int32} : ofM (mfl S n t k f h_ w b x y hd) j 8 = if j = n then t else ofM S j 8 := by
  unfold mfl
  simp +decide only [of52, of52z, and_true, and_false, if_false, reduceIte]
theorem mfl_9 {S : St} {n j : Nat} {t : Int32} {k f h_ w b x y hd : Int32} : ofM (mfl S n t k f h_ w b x y hd) j 9 = if j = n then t else ofM S j 9 := by
  unfold mfl
  simp +decide only [of52, of52z, and_true, and_false, if_false, reduceIte]
theorem mfl_10 {S : St} {n j : Nat} {t : Int32} {k f h_ w b x y hd : Int32} : ofM (mfl S n t k f h_ w b x y hd) j 10 = if j = n then nI 0 else ofM S j 10 := by
  unfold mfl
  simp +decide only [of52, of52z, and_true, and_false, if_false, reduceIte]
set_option maxHeartbeats 1000000 in
theorem st_flue (G : GT) (S : St) (h : Rel S) (k f h_ w b x y hd : Int32) : ∃ (r : Int32) (S1 S2 : St), rX7_flue G 10 [.ref (gad G 0), .int k, .int f, .int h_, .int w, .int b, .int x, .int y, .int hd] S (some (.int r)) S1 ∧ rX8_flue G 10 [.ref (gad G 8), .int k, .int f, .int h_, .int w, .int b, .int x, .int y, .int hd] S1 (some (.int r)) S2 ∧ Rel S2 := by
  have h0 := id h
  obtain ⟨hN, hL, hD, hI, hB, hF, hV, hS, hW, hK, hQ, hT⟩ := h0
  obtain ⟨n13, n14, n0, n22, n15, n2, n16, n6, n18, n7, n19, n8, n20, n9, n21, n10, n23, n11, n24⟩ := id hN
  cases hb : ((inR k (nI 0) (nI 2) && inR f (nI 0) (nI 2) && inR h_ (nI 1) (nI 30) && inR w (nI 10) (nI 40) && inR b (nI 0) (nI 4)) && (inR x (nI 0) (nI 20) && inR y (nI 0) (nI 20)) && inR hd (nI 0) (nI 3)) with
  | false => exact ⟨-1, S, S, m_X7_flue_bad 7 G S k f h_ w b x y hd hb, m_X8_flue_bad 8 G S n13 k f h_ w b x y hd hb, h⟩
  | true =>
    simp only [Bool.and_eq_true] at hb
    obtain ⟨⟨g1, g2⟩, g3⟩ := hb
    have c1 : (inR k (nI 0) (nI 2) && inR f (nI 0) (nI 2) && inR h_ (nI 1) (nI 30) && inR w (nI 10) (nI 40) && inR b (nI 0) (nI 4)) = true := by simp only [Bool.and_eq_true]; exact g1
    have c2 : (inR x (nI 0) (nI 20) && inR y (nI 0) (nI 20)) = true := by simp only [Bool.and_eq_true]; exact g2
    by_cases hfu : S.1 7 = 12
    · exact ⟨-3, S, S, m_X7_flue_full 7 G S k f h_ w b x y hd c1 c2 g3 hfu, m_X8_flue_full 8 G S n13 k f h_ w b x y hd c1 c2 g3 (by omega), h⟩
    have h7 : S.1 7 < 12 := by omega
    obtain ⟨⟨⟨⟨r1, r2⟩, r3⟩, r4⟩, r5⟩ := g1
    obtain ⟨r6, r7⟩ := g2
    obtain ⟨vk, rfl, -, lk⟩ := inR_of r1 (by decide) (by decide)
    obtain ⟨vf, rfl, -, lf⟩ := inR_of r2 (by decide) (by decide)
    obtain ⟨vw, rfl, lw, lw2⟩ := inR_of r4 (by decide) (by decide)
    obtain ⟨vx, rfl, -, lx⟩ := inR_of r6 (by decide) (by decide)
    obtain ⟨vy, rfl, -, ly⟩ := inR_of r7 (by decide) (by decide)
    obtain ⟨vh, rfl, -, lh⟩ := inR_of g3 (by decide) (by decide)
    refine ⟨nI (S.1 7), xfl S (nI vk) (nI vf) h_ (nI vw) b (nI vx) (nI vy) (nI vh), sN (mfl (xfl S (nI vk) (nI vf) h_ (nI vw) b (nI vx) (nI vy) (nI vh)) (S.1 7) (nI (S.1 0)) (nI vk) (nI vf) h_ (nI vw) b (nI vx) (nI vy) (nI vh)) 18 (S.1 7 + 1), m_X7_flue_ok 7 G S _ _ _ _ _ _ _ _ c1 c2 g3 h7, ?_, ?_⟩
    · have := m_X8_flue_ok 8 G (xfl S (nI vk) (nI vf) h_ (nI vw) b (nI vx) (nI vy) (nI vh)) n13 _ _ _ _ _ _ _ _ c1 c2 g3 (by show S.1 18 < 12; omega)
      rw [show (xfl S (nI vk) (nI vf) h_ (nI vw) b (nI vx) (nI vy) (nI vh)).1 18 = S.1 7 from n18, show (xfl S (nI vk) (nI vf) h_ (nI vw) b (nI vx) (nI vy) (nI vh)).1 14 = S.1 0 from n14] at this
      exact this
    have hlt : ∀ kk, kk < S.1 10 → ¬ S.2.1 36 kk = nI (S.1 7) := by
      intro kk hk
      have := hW.2.2 kk hk
      rw [this.1, nI_eq (by omega) (by omega)]
      omega
    refine ⟨⟨n13, n14, n0, n22, n15, n2, n16, n6, rfl, (by show S.1 7 + 1 ≤ 12; omega), n19, n8, n20, n9, n21, n10, n23, n11, n24⟩, hL, hD, hI, hB, ?_, ?_, ?_, ⟨hW.1, hW.2.1, fun kk hk => ⟨(hW.2.2 kk hk).1, Nat.lt_succ_of_lt (hW.2.2 kk hk).2⟩⟩, hK, ⟨hQ.1, fun kk hk => ⟨(hQ.2 kk hk).1, Nat.lt_succ_of_lt (hQ.2 kk hk).2⟩⟩, hT⟩
    · intro j
      obtain ⟨q0, q1, q2, q3, q4, q5, q6, q7, q8, q10⟩ := hF j
      have key : ∀ (a : Nat) (v z : Int32), ofM S j a = z → (if j = S.1 7 then v else ofM S j a) = if j = S.1 7 then v else z := fun a v z e => by rw [e]
      exact ⟨mfl_0.trans (key 0 _ _ q0), mfl_1.trans (key 1 _ _ q1), mfl_2.trans (key 2 _ _ q2), mfl_3.trans (key 3 _ _ q3), mfl_4.trans (key 4 _ _ q4), mfl_5.trans (key 5 _ _ q5), mfl_6.trans (key 6 _ _ q6), mfl_7.trans (key 7 _ _ q7), mfl_8.trans (key 8 _ _ q8), mfl_10.trans (key 10 _ _ q10)⟩
    · intro j hj
      have U : ∀ (f : Nat → Int32) (v : Int32), upd f (S.1 7) v j = if j = S.1 7 then v else f j := fun f v => rfl
      have hj' : j < S.1 7 + 1 := hj
      show (upd (S.2.1 19) (S.1 7) (nI vk) j = nI (tn (upd (S.2.1 19) (S.1 7) (nI vk) j)) ∧ tn (upd (S.2.1 19) (S.1 7) (nI vk) j) < 3) ∧ (upd (S.2.1 20) (S.1 7) (nI vf) j = nI (tn (upd (S.2.1 20) (S.1 7) (nI vf) j)) ∧ tn (upd (S.2.1 20) (S.1 7) (nI vf) j) < 3) ∧ ¬ upd (S.2.1 22) (S.1 7) (nI vw) j ≤ 0 ∧ (upd (S.2.1 24) (S.1 7) (nI vx) j = nI (tn (upd (S.2.1 24) (S.1 7) (nI vx) j)) ∧ tn (upd (S.2.1 24) (S.1 7) (nI vx) j) ≤ 20) ∧ (upd (S.2.1 25) (S.1 7) (nI vy) j = nI (tn (upd (S.2.1 25) (S.1 7) (nI vy) j)) ∧ tn (upd (S.2.1 25) (S.1 7) (nI vy) j) ≤ 20) ∧ (upd (S.2.1 26) (S.1 7) (nI vh) j = nI (tn (upd (S.2.1 26) (S.1 7) (nI vh) j)) ∧ tn (upd (S.2.1 26) (S.1 7) (nI vh) j) < 4) ∧ (upd (S.2.1 27) (S.1 7) (nI (S.1 0)) j = nI (tn (upd (S.2.1 27) (S.1 7) (nI (S.1 0)) j)) ∧ tn (upd (S.2.1 27) (S.1 7) (nI (S.1 0)) j) ≤ S.1 0)
      simp only [U]
      by_cases e : j = S.1 7
      · simp only [if_pos e]
        rw [tnI (by omega), tnI (by omega), tnI (by omega), tnI (by omega), tnI (by omega), tnI (by omega)]
        exact ⟨⟨rfl, by omega⟩, ⟨rfl, by omega⟩, nI_nle (by omega) (by omega), ⟨rfl, lx⟩, ⟨rfl, ly⟩, ⟨rfl, by omega⟩, ⟨rfl, Nat.le_refl _⟩⟩
      · simp only [if_neg e]
        exact hV j (by omega)
    · intro j hj
      have hj' : j < S.1 7 + 1 := hj
      refine mfl_9.trans ?_
      show (if j = S.1 7 then nI (S.1 0) else ofM S j 9) = match laL (S.2.1 36) (S.2.1 37) (nI j) (nI (S.1 0)) (S.1 10) with
        | none => upd (S.2.1 27) (S.1 7) (nI (S.1 0)) j
        | some kk => S.2.1 37 kk
      by_cases e : j = S.1 7
      · subst e
        rw [if_pos rfl, laL_none _ hlt]
        exact upd_s.symm
      · rw [if_neg e, upd_n e]
        exact hS j (by omega)
set_option maxHeartbeats 1000000 in
theorem st_fire (G : GT) (S : St) (h : Rel S) (f dy : Int32) : ∃ (r : Int32) (S1 S2 : St), rX7_fire G 10 [.ref (gad G 0), .int f, .int dy] S (some (.int r)) S1 ∧ rX8_fire G 10 [.ref (gad G 8), .int f, .int dy] S1 (some (.int r)) S2 ∧ Rel S2 := by
  have h0 := id h
  obtain ⟨hN, hL, hD, hI, hB, hF, hV, hS, hW, hK, hQ, hT⟩ := h0
  obtain ⟨n13, n14, n0, n22, n15, n2, n16, n6, n18, n7, n19, n8, n20, n9, n21, n10, n23, n11, n24⟩ := id hN
  cases hb : (hasB f (S.1 7) && inR dy (nI 0) (nI (S.1 0))) with
  | false => exact ⟨-1, S, S, m_X7_fire_bad 8 G S f dy n7 hb, m_X8_fire_bad 7 G S n13 f dy (by omega) (by rw [n18, n14]; exact hb), h⟩
  | true =>
    simp only [Bool.and_eq_true] at hb
    obtain ⟨i, rfl, hi⟩ := hasB_of hb.1 (by omega)
    have q8 := (hF i).2.2.2.2.2.2.2.2.1
    have hdm : inR dy (nI 0) (nI (S.1 14)) = true := by rw [n14]; exact hb.2
    by_cases hc : S.2.1 27 i ≤ dy
    · by_cases hl : S.1 9 = 10
      · exact ⟨-3, S, S, m_X7_fire_full 8 G S i hi n7 dy hb.2 hc hl, m_X8_fire_full 7 G S n13 i (by omega) (by omega) dy hdm (by rw [q8]; exact hc) (by omega), h⟩
      · refine ⟨nI (S.1 9), sN (sA (sA S 34 (S.1 9) (nI i)) 35 (S.1 9) dy) 9 (S.1 9 + 1), sN (sA (sA (sN (sA (sA S 34 (S.1 9) (nI i)) 35 (S.1 9) dy) 9 (S.1 9 + 1)) 54 (2 * S.1 9) (nI i)) 54 (2 * S.1 9 + 1) dy) 20 (S.1 9 + 1), m_X7_fire_ok 8 G S i hi n7 dy hb.2 hc (by omega), ?_, ?_⟩
        · have := m_X8_fire_ok 7 G (sN (sA (sA S 34 (S.1 9) (nI i)) 35 (S.1 9) dy) 9 (S.1 9 + 1)) n13 i (by show i < S.1 18; omega) (by show S.1 18 ≤ 12; omega) dy hdm (by show ofM S i 8 ≤ dy; rw [q8]; exact hc) (by show S.1 20 < 10; omega)
          rw [show (sN (sA (sA S 34 (S.1 9) (nI i)) 35 (S.1 9) dy) 9 (S.1 9 + 1)).1 20 = S.1 9 from n20] at this
          exact this
        · refine ⟨⟨n13, n14, n0, n22, n15, n2, n16, n6, n18, n7, n19, n8, rfl, (by show S.1 9 + 1 ≤ 10; omega), n21, n10, n23, n11, n24⟩, hL, hD, hI, hB, hF, hV, hS, hW, hK, ⟨?_, ?_⟩, hT⟩
          · intro k
            obtain ⟨e1, e2⟩ := hQ.1 k
            show upd (upd (S.2.1 54) (2 * S.1 9) (nI i)) (2 * S.1 9 + 1) dy (2 * k) = upd (S.2.1 34) (S.1 9) (nI i) k ∧ upd (upd (S.2.1 54) (2 * S.1 9) (nI i)) (2 * S.1 9 + 1) dy (2 * k + 1) = upd (S.2.1 35) (S.1 9) dy k
            rw [u2r (by decide), if_neg (by omega), u2zr, u2 (by decide) (by decide), u2z (by decide)]
            by_cases e : k = S.1 9
            · subst e; simp [upd]
            · simp [upd, e]; exact ⟨e1, e2⟩
          · intro k hk
            have hk' : k < S.1 9 + 1 := hk
            show upd (S.2.1 34) (S.1 9) (nI i) k = nI (tn (upd (S.2.1 34) (S.1 9) (nI i) k)) ∧ tn (upd (S.2.1 34) (S.1 9) (nI i) k) < S.1 7
            by_cases e : k = S.1 9
            · subst e
              rw [upd_s, tnI (by omega)]
              exact ⟨rfl, hi⟩
            · rw [upd_n e]; exact hQ.2 k (by omega)
    · exact ⟨-2, S, S, m_X7_fire_state 8 G S i hi n7 dy hb.2 hc, m_X8_fire_state 7 G S n13 i (by omega) (by omega) dy hdm (by rw [q8]; exact hc), h⟩
