def xsw (S : St) (i : Nat) : St := sA (sN (sA (sA (sA (sA S 36 (S.1 10) (nI i)) 37 (S.1 10) (nI (S.1 0))) 38 (S.1 10) (doX S i)) 39 (S.1 10) (S.2.1 21 i * nI (S.1 1))) 10 (S.1 10 + 1)) 28 i (nI 0)
def msw (S T : St) (i : Nat) : St := sA (sA (sN (sA (sA (sA (sA T 55 (4 * S.1 10) (nI i)) 55 (4 * S.1 10 + 1) (nI (S.1 0))) 55 (4 * S.1 10 + 2) (doX S i)) 55 (4 * S.1 10 + 3) (S.2.1 21 i * nI (S.1 1))) 21 (S.1 10 + 1)) 52 (11 * i + 9) (nI (S.1 0))) 52 (11 * i + 10) (nI 0)
set_option maxHeartbeats 1000000 in
theorem st_sweep (G : GT) (S : St) (h : Rel S) (f : Int32) : ∃ (r : Int32) (S1 S2 : St), rX7_sweep G 10 [.ref (gad G 0), .int f] S (some (.int r)) S1 ∧ rX8_sweep G 10 [.ref (gad G 8), .int f] S1 (some (.int r)) S2 ∧ Rel S2 := by
  have h0 := id h
  obtain ⟨hN, hL, hD, hI, hB, hF, hV, hS, hW, hK, hQ, hT⟩ := h0
  obtain ⟨n13, n14, n0, n22, n15, n2, n16, n6, n18, n7, n19, n8, n20, n9, n21, n10, n23, n11, n24⟩ := id hN
  cases hb : hasB f (S.1 7) with
  | false => exact ⟨-1, S, S, m_X7_sweep_bad 8 G S f n7 hb, m_X8_sweep_bad 7 G S n13 f (by omega) (by rw [n18]; exact hb), h⟩
  | true =>
    obtain ⟨i, rfl, hi⟩ := hasB_of hb (by omega)
    have hhm := h.hdm i (by omega)
    by_cases hst : foX S i = true ∨ doX S i = -9
    · exact ⟨-2, S, S, m_X7_sweep_state 6 G S i hi n7 n8 n10 h.hd hst, m_X8_sweep_state 7 G S n13 i (by omega) (by omega) (by omega) hhm (by rw [h.fo, h.do_ hi]; exact hst), h⟩
    have hf : foX S i = false := by cases e : foX S i with
      | false => rfl
      | true => exact absurd (Or.inl e) hst
    have hd : ¬ doX S i = -9 := fun e => hst (Or.inr e)
    by_cases hl : S.1 10 = 100
    · exact ⟨-3, S, S, m_X7_sweep_full 6 G S i hi n7 n8 n10 h.hd hf hd hl, m_X8_sweep_full 7 G S n13 i (by omega) (by omega) (by omega) hhm (by rw [h.fo]; exact hf) (by rw [h.do_ hi]; exact hd) (by omega), h⟩
    refine ⟨S.2.1 21 i * nI (S.1 1), xsw S i, msw S (xsw S i) i, m_X7_sweep_ok 6 G S i hi n7 n8 n10 h.hd hf hd (by omega), ?_, ?_⟩
    · have hfm : foM (xsw S i) i = foM S i := rfl
      have hdm : doM (xsw S i) i = doX S i := h.do_ hi
      have := m_X8_sweep_ok 7 G (xsw S i) n13 i (by show i < S.1 18; omega) (by show S.1 18 ≤ 12; omega) (by show S.1 19 ≤ 30; omega) hhm (by rw [hfm, h.fo]; exact hf) (by rw [hdm]; exact hd) (by show S.1 21 < 100; omega)
      rw [hdm, show (xsw S i).1 21 = S.1 10 from n21, show (xsw S i).1 14 = S.1 0 from n14, show (xsw S i).1 22 = S.1 1 from n22, show ofM (xsw S i) i 2 = S.2.1 21 i from (hF i).2.2.1] at this
      exact this
    have U : ∀ (g : Nat → Int32) (v : Int32) (k : Nat), upd g (S.1 10) v k = if k = S.1 10 then v else g k := fun g v k => rfl
    refine ⟨⟨n13, n14, n0, n22, n15, n2, n16, n6, n18, n7, n19, n8, n20, n9, rfl, (by show S.1 10 + 1 ≤ 100; omega), n23, n11, n24⟩, hL, hD, hI, hB, ?_, hV, ?_, ⟨?_, ?_, ?_⟩, hK, hQ, hT⟩
    · intro j
      obtain ⟨q0, q1, q2, q3, q4, q5, q6, q7, q8, q10⟩ := hF j
      refine ⟨?_, ?_, ?_, ?_, ?_, ?_, ?_, ?_, ?_, ?_⟩
      · unfold msw; rw [of52 (by decide) (by decide), if_neg (by omega), of52 (by decide) (by decide), if_neg (by omega)]; exact q0
      · unfold msw; rw [of52 (by decide) (by decide), if_neg (by omega), of52 (by decide) (by decide), if_neg (by omega)]; exact q1
      · unfold msw; rw [of52 (by decide) (by decide), if_neg (by omega), of52 (by decide) (by decide), if_neg (by omega)]; exact q2
      · unfold msw; rw [of52 (by decide) (by decide), if_neg (by omega), of52 (by decide) (by decide), if_neg (by omega)]; exact q3
      · unfold msw; rw [of52 (by decide) (by decide), if_neg (by omega), of52 (by decide) (by decide), if_neg (by omega)]; exact q4
      · unfold msw; rw [of52 (by decide) (by decide), if_neg (by omega), of52 (by decide) (by decide), if_neg (by omega)]; exact q5
      · unfold msw; rw [of52 (by decide) (by decide), if_neg (by omega), of52 (by decide) (by decide), if_neg (by omega)]; exact q6
      · unfold msw; rw [of52 (by decide) (by decide), if_neg (by omega), of52 (by decide) (by decide), if_neg (by omega)]; exact q7
      · unfold msw; rw [of52 (by decide) (by decide), if_neg (by omega), of52 (by decide) (by decide), if_neg (by omega)]; exact q8
      · show ofM (msw S (xsw S i) i) j 10 = upd (S.2.1 28) i (nI 0) j
        unfold msw
        rw [of52 (by decide) (by decide)]
        by_cases e : j = i
        · subst e; rw [if_pos ⟨rfl, rfl⟩, upd_s]
        · rw [if_neg (fun z => e z.1), of52 (by decide) (by decide), if_neg (by omega), upd_n e]; exact q10
    · intro j hj
      show ofM (msw S (xsw S i) i) j 9 = match laL (upd (S.2.1 36) (S.1 10) (nI i)) (upd (S.2.1 37) (S.1 10) (nI (S.1 0))) (nI j) (nI (S.1 0)) (S.1 10 + 1) with
        | none => S.2.1 27 j
        | some kk => upd (S.2.1 37) (S.1 10) (nI (S.1 0)) kk
      unfold msw
      rw [of52 (by decide) (by decide), if_neg (by omega), of52 (by decide) (by decide)]
      have hj7 : j < S.1 7 := hj
      by_cases e : j = i
      · subst e
        rw [if_pos ⟨rfl, rfl⟩, laL, upd_s, upd_s, if_pos ⟨rfl, i_rfl _⟩]
        exact upd_s.symm
      · rw [if_neg (fun z => e z.1), laL, upd_s, if_neg (fun z => e ((nI_eq (by omega) (by omega)).mp z.1).symm), laL_congr (fl' := S.2.1 36) (dy' := S.2.1 37) _ (fun kk hk => ⟨upd_n (by omega), upd_n (by omega)⟩)]
        refine (hS j hj7).trans ?_
        unfold swX
        cases hla : laL (S.2.1 36) (S.2.1 37) (nI j) (nI (S.1 0)) (S.1 10) with
        | none => rfl
        | some kk =>
          have := laL_lt hla
          exact (upd_n (by omega)).symm
    · intro kk
      obtain ⟨e0, e1, e2, e3⟩ := hW.1 kk
      show upd (upd (upd (upd (S.2.1 55) (4 * S.1 10) (nI i)) (4 * S.1 10 + 1) (nI (S.1 0))) (4 * S.1 10 + 2) (doX S i)) (4 * S.1 10 + 3) (S.2.1 21 i * nI (S.1 1)) (4 * kk) = upd (S.2.1 36) (S.1 10) (nI i) kk ∧ upd (upd (upd (upd (S.2.1 55) (4 * S.1 10) (nI i)) (4 * S.1 10 + 1) (nI (S.1 0))) (4 * S.1 10 + 2) (doX S i)) (4 * S.1 10 + 3) (S.2.1 21 i * nI (S.1 1)) (4 * kk + 1) = upd (S.2.1 37) (S.1 10) (nI (S.1 0)) kk ∧ upd (upd (upd (upd (S.2.1 55) (4 * S.1 10) (nI i)) (4 * S.1 10 + 1) (nI (S.1 0))) (4 * S.1 10 + 2) (doX S i)) (4 * S.1 10 + 3) (S.2.1 21 i * nI (S.1 1)) (4 * kk + 2) = upd (S.2.1 38) (S.1 10) (doX S i) kk ∧ upd (upd (upd (upd (S.2.1 55) (4 * S.1 10) (nI i)) (4 * S.1 10 + 1) (nI (S.1 0))) (4 * S.1 10 + 2) (doX S i)) (4 * S.1 10 + 3) (S.2.1 21 i * nI (S.1 1)) (4 * kk + 3) = upd (S.2.1 39) (S.1 10) (S.2.1 21 i * nI (S.1 1)) kk
      simp +decide only [u4r, u4zr, u4, u4z, and_false, and_true, if_false, reduceIte, U, e0, e1, e2, e3]
    · intro kk hk
      have hk' : kk < S.1 10 + 1 := hk
      show upd (S.2.1 37) (S.1 10) (nI (S.1 0)) kk = nI (tn (upd (S.2.1 37) (S.1 10) (nI (S.1 0)) kk)) ∧ tn (upd (S.2.1 37) (S.1 10) (nI (S.1 0)) kk) ≤ S.1 0
      by_cases e : kk = S.1 10
      · subst e; rw [upd_s, tnI (by omega)]; exact ⟨rfl, Nat.le_refl _⟩
      · rw [upd_n e]; exact hW.2.1 kk (by omega)
    · intro kk hk
      have hk' : kk < S.1 10 + 1 := hk
      show upd (S.2.1 36) (S.1 10) (nI i) kk = nI (tn (upd (S.2.1 36) (S.1 10) (nI i) kk)) ∧ tn (upd (S.2.1 36) (S.1 10) (nI i) kk) < S.1 7
      by_cases e : kk = S.1 10
      · subst e; rw [upd_s, tnI (by omega)]; exact ⟨rfl, hi⟩
      · rw [upd_n e]; exact hW.2.2 kk (by omega)
def xlk_true (S : St) (i : Nat) (dy : Int32) : St := sN (sA (sA (sA (sA (sA S 28 i (nI 0)) 30 (S.1 8) (nI i)) 31 (S.1 8) dy) 32 (S.1 8) (nI (S.1 0))) 33 (S.1 8) (bI true)) 8 (S.1 8 + 1)
def mlk_true (S T : St) (i : Nat) (dy : Int32) : St := sA (sN (sA (sA (sA (sA T 53 (4 * S.1 8) (nI i)) 53 (4 * S.1 8 + 1) dy) 53 (4 * S.1 8 + 2) (bI true)) 53 (4 * S.1 8 + 3) (nI (S.1 0))) 19 (S.1 8 + 1)) 52 (11 * i + 10) (nI 0)
def xlk_false (S : St) (i : Nat) (dy : Int32) : St := sN (sA (sA (sA (sA (S) 30 (S.1 8) (nI i)) 31 (S.1 8) dy) 32 (S.1 8) (nI (S.1 0))) 33 (S.1 8) (bI false)) 8 (S.1 8 + 1)
def mlk_false (S T : St) (i : Nat) (dy : Int32) : St := sA (sN (sA (sA (sA (sA T 53 (4 * S.1 8) (nI i)) 53 (4 * S.1 8 + 1) dy) 53 (4 * S.1 8 + 2) (bI false)) 53 (4 * S.1 8 + 3) (nI (S.1 0))) 19 (S.1 8 + 1)) 52 (11 * i + 10) (S.2.1 28 i)
set_option maxHeartbeats 1000000 in
theorem st_look (G : GT) (S : St) (h : Rel S) (f dy : Int32) (b : Bool) : ∃ (r : Int32) (S1 S2 : St), rX7_look G 10 [.ref (gad G 0), .int f, .int dy, .int (bI b)] S (some (.int r)) S1 ∧ rX8_look G 10 [.ref (gad G 8), .int f, .int dy, .int (bI b)] S1 (some (.int r)) S2 ∧ Rel S2 := by
  have h0 := id h
  obtain ⟨hN, hL, hD, hI, hB, hF, hV, hS, hW, hK, hQ, hT⟩ := h0
  obtain ⟨n13, n14, n0, n22, n15, n2, n16, n6, n18, n7, n19, n8, n20, n9, n21, n10, n23, n11, n24⟩ := id hN
  cases hb : (hasB f (S.1 7) && inR dy (nI 0) (nI (S.1 0))) with
  | false => exact ⟨-1, S, S, m_X7_look_bad 8 G S f dy _ n7 hb, m_X8_look_bad 7 G S n13 f dy _ (by omega) (by rw [n18, n14]; exact hb), h⟩
  | true =>
    simp only [Bool.and_eq_true] at hb
    obtain ⟨i, rfl, hi⟩ := hasB_of hb.1 (by omega)
    have q8 := (hF i).2.2.2.2.2.2.2.2.1
    have hdm : inR dy (nI 0) (nI (S.1 14)) = true := by rw [n14]; exact hb.2
    by_cases hc : S.2.1 27 i ≤ dy
    · by_cases hl : S.1 8 = 30
      · exact ⟨-3, S, S, m_X7_look_full 8 G S i hi n7 dy hb.2 b hc hl, m_X8_look_full 7 G S n13 i (by omega) (by omega) dy hdm b (by rw [q8]; exact hc) (by omega), h⟩
      cases b with
      | true =>
        refine ⟨nI (S.1 8), xlk_true S i dy, mlk_true S (xlk_true S i dy) i dy, m_X7_look_true 8 G S i hi n7 dy hb.2 hc (by omega), ?_, ?_⟩
        · have := m_X8_look_true 7 G (xlk_true S i dy) n13 i (by show i < S.1 18; omega) (by show S.1 18 ≤ 12; omega) dy hdm (by show ofM S i 8 ≤ dy; rw [q8]; exact hc) (by show S.1 19 < 30; omega)
          rw [show (xlk_true S i dy).1 19 = S.1 8 from n19, show (xlk_true S i dy).1 14 = S.1 0 from n14] at this
          exact this
        have U : ∀ (g : Nat → Int32) (v : Int32) (k : Nat), upd g (S.1 8) v k = if k = S.1 8 then v else g k := fun g v k => rfl
        refine ⟨⟨n13, n14, n0, n22, n15, n2, n16, n6, n18, n7, rfl, (by show S.1 8 + 1 ≤ 30; omega), n20, n9, n21, n10, n23, n11, n24⟩, hL, hD, hI, hB, ?_, hV, ?_, hW, ?_, hQ, hT⟩
        · intro j
          obtain ⟨q0, q1, q2, q3, q4, q5, q6, q7, q8, q10⟩ := hF j
          refine ⟨?_, ?_, ?_, ?_, ?_, ?_, ?_, ?_, ?_, ?_⟩
          · unfold mlk_true; rw [of52 (by decide) (by decide), if_neg (by omega)]; exact q0
          · unfold mlk_true; rw [of52 (by decide) (by decide), if_neg (by omega)]; exact q1
          · unfold mlk_true; rw [of52 (by decide) (by decide), if_neg (by omega)]; exact q2
          · unfold mlk_true; rw [of52 (by decide) (by decide), if_neg (by omega)]; exact q3
          · unfold mlk_true; rw [of52 (by decide) (by decide), if_neg (by omega)]; exact q4
          · unfold mlk_true; rw [of52 (by decide) (by decide), if_neg (by omega)]; exact q5
          · unfold mlk_true; rw [of52 (by decide) (by decide), if_neg (by omega)]; exact q6
          · unfold mlk_true; rw [of52 (by decide) (by decide), if_neg (by omega)]; exact q7
          · unfold mlk_true; rw [of52 (by decide) (by decide), if_neg (by omega)]; exact q8
          · show ofM (mlk_true S (xlk_true S i dy) i dy) j 10 = upd (S.2.1 28) i (nI 0) j
            unfold mlk_true
            rw [of52 (by decide) (by decide)]
            by_cases e : j = i
            · subst e; rw [if_pos ⟨rfl, rfl⟩, upd_s]
            · rw [if_neg (fun z => e z.1), upd_n e]; exact q10
        · intro j hj
          show ofM (mlk_true S (xlk_true S i dy) i dy) j 9 = swX S j (nI (S.1 0))
          unfold mlk_true
          rw [of52 (by decide) (by decide), if_neg (by omega)]
          exact hS j hj
        · intro kk
          obtain ⟨e0, e1, e2, e3⟩ := hK kk
          show upd (upd (upd (upd (S.2.1 53) (4 * S.1 8) (nI i)) (4 * S.1 8 + 1) dy) (4 * S.1 8 + 2) (bI true)) (4 * S.1 8 + 3) (nI (S.1 0)) (4 * kk) = upd (S.2.1 30) (S.1 8) (nI i) kk ∧ upd (upd (upd (upd (S.2.1 53) (4 * S.1 8) (nI i)) (4 * S.1 8 + 1) dy) (4 * S.1 8 + 2) (bI true)) (4 * S.1 8 + 3) (nI (S.1 0)) (4 * kk + 1) = upd (S.2.1 31) (S.1 8) dy kk ∧ upd (upd (upd (upd (S.2.1 53) (4 * S.1 8) (nI i)) (4 * S.1 8 + 1) dy) (4 * S.1 8 + 2) (bI true)) (4 * S.1 8 + 3) (nI (S.1 0)) (4 * kk + 2) = upd (S.2.1 33) (S.1 8) (bI true) kk ∧ upd (upd (upd (upd (S.2.1 53) (4 * S.1 8) (nI i)) (4 * S.1 8 + 1) dy) (4 * S.1 8 + 2) (bI true)) (4 * S.1 8 + 3) (nI (S.1 0)) (4 * kk + 3) = upd (S.2.1 32) (S.1 8) (nI (S.1 0)) kk
          simp +decide only [u4r, u4zr, u4, u4z, and_false, and_true, if_false, reduceIte, U, e0, e1, e2, e3]
      | false =>
        refine ⟨nI (S.1 8), xlk_false S i dy, mlk_false S (xlk_false S i dy) i dy, m_X7_look_false 8 G S i hi n7 dy hb.2 hc (by omega), ?_, ?_⟩
        · have := m_X8_look_false 7 G (xlk_false S i dy) n13 i (by show i < S.1 18; omega) (by show S.1 18 ≤ 12; omega) dy hdm (by show ofM S i 8 ≤ dy; rw [q8]; exact hc) (by show S.1 19 < 30; omega)
          rw [show (xlk_false S i dy).1 19 = S.1 8 from n19, show (xlk_false S i dy).1 14 = S.1 0 from n14, show ofM (xlk_false S i dy) i 10 = S.2.1 28 i from (hF i).2.2.2.2.2.2.2.2.2] at this
          exact this
        have U : ∀ (g : Nat → Int32) (v : Int32) (k : Nat), upd g (S.1 8) v k = if k = S.1 8 then v else g k := fun g v k => rfl
        refine ⟨⟨n13, n14, n0, n22, n15, n2, n16, n6, n18, n7, rfl, (by show S.1 8 + 1 ≤ 30; omega), n20, n9, n21, n10, n23, n11, n24⟩, hL, hD, hI, hB, ?_, hV, ?_, hW, ?_, hQ, hT⟩
        · intro j
          obtain ⟨q0, q1, q2, q3, q4, q5, q6, q7, q8, q10⟩ := hF j
          refine ⟨?_, ?_, ?_, ?_, ?_, ?_, ?_, ?_, ?_, ?_⟩
          · unfold mlk_false; rw [of52 (by decide) (by decide), if_neg (by omega)]; exact q0
          · unfold mlk_false; rw [of52 (by decide) (by decide), if_neg (by omega)]; exact q1
          · unfold mlk_false; rw [of52 (by decide) (by decide), if_neg (by omega)]; exact q2
          · unfold mlk_false; rw [of52 (by decide) (by decide), if_neg (by omega)]; exact q3
          · unfold mlk_false; rw [of52 (by decide) (by decide), if_neg (by omega)]; exact q4
          · unfold mlk_false; rw [of52 (by decide) (by decide), if_neg (by omega)]; exact q5
          · unfold mlk_false; rw [of52 (by decide) (by decide), if_neg (by omega)]; exact q6
          · unfold mlk_false; rw [of52 (by decide) (by decide), if_neg (by omega)]; exact q7
          · unfold mlk_false; rw [of52 (by decide) (by decide), if_neg (by omega)]; exact q8
          · show ofM (mlk_false S (xlk_false S i dy) i dy) j 10 = S.2.1 28 j
            unfold mlk_false
            rw [of52 (by decide) (by decide)]
            by_cases e : j = i
            · subst e; rw [if_pos ⟨rfl, rfl⟩]
            · rw [if_neg (fun z => e z.1)]; exact q10
        · intro j hj
          show ofM (mlk_false S (xlk_false S i dy) i dy) j 9 = swX S j (nI (S.1 0))
          unfold mlk_false
          rw [of52 (by decide) (by decide), if_neg (by omega)]
          exact hS j hj
        · intro kk
          obtain ⟨e0, e1, e2, e3⟩ := hK kk
          show upd (upd (upd (upd (S.2.1 53) (4 * S.1 8) (nI i)) (4 * S.1 8 + 1) dy) (4 * S.1 8 + 2) (bI false)) (4 * S.1 8 + 3) (nI (S.1 0)) (4 * kk) = upd (S.2.1 30) (S.1 8) (nI i) kk ∧ upd (upd (upd (upd (S.2.1 53) (4 * S.1 8) (nI i)) (4 * S.1 8 + 1) dy) (4 * S.1 8 + 2) (bI false)) (4 * S.1 8 + 3) (nI (S.1 0)) (4 * kk + 1) = upd (S.2.1 31) (S.1 8) dy kk ∧ upd (upd (upd (upd (S.2.1 53) (4 * S.1 8) (nI i)) (4 * S.1 8 + 1) dy) (4 * S.1 8 + 2) (bI false)) (4 * S.1 8 + 3) (nI (S.1 0)) (4 * kk + 2) = upd (S.2.1 33) (S.1 8) (bI false) kk ∧ upd (upd (upd (upd (S.2.1 53) (4 * S.1 8) (nI i)) (4 * S.1 8 + 1) dy) (4 * S.1 8 + 2) (bI false)) (4 * S.1 8 + 3) (nI (S.1 0)) (4 * kk + 3) = upd (S.2.1 32) (S.1 8) (nI (S.1 0)) kk
          simp +decide only [u4r, u4zr, u4, u4z, and_false, and_true, if_false, reduceIte, U, e0, e1, e2, e3]
    · exact ⟨-2, S, S, m_X7_look_state 8 G S i hi n7 dy hb.2 b hc, m_X8_look_state 7 G S n13 i (by omega) (by omega) dy hdm b (by rw [q8]; exact hc), h⟩
