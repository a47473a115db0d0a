theorem rel_frame {S T : St} (h : Rel S) (cN : ∀ j, (j ≠ 2 ∧ j ≠ 15) → T.1 j = S.1 j) (cA : ∀ j, (j ≠ 10 ∧ j ≠ 46) → T.2.1 j = S.2.1 j) (cL : T.2.2 = S.2.2) (hn : T.1 15 = T.1 2 ∧ T.1 2 ≤ 60) (hd : rD T) : Rel T := by
  obtain ⟨hN, hL, hD, hI, hB, hF, hV, hS, hW, hK, hQ, hT⟩ := h
  obtain ⟨n13, n14, n0, n22, n15, n2, n16, n6, n18, n7, n19, n8, n20, n9, n21, n10, n23, n11, n24⟩ := hN
  have N : ∀ j, (decide (j ≠ 2) && decide (j ≠ 15)) = true → T.1 j = S.1 j := fun j hj => by simp at hj; exact cN j hj
  have A : ∀ j, (decide (j ≠ 10) && decide (j ≠ 46)) = true → T.2.1 j = S.2.1 j := fun j hj => by simp at hj; exact cA j hj
  have O : ∀ i c, ofM T i c = ofM S i c := fun i c => by unfold ofM; rw [A 52 rfl]
  have SW : ∀ i d, swX T i d = swX S i d := fun i d => by unfold swX; rw [A 36 rfl, A 37 rfl, A 27 rfl, N 10 rfl]
  refine ⟨⟨by rw [N 13 rfl]; exact n13, by rw [N 14 rfl, N 0 rfl]; exact n14, by rw [N 0 rfl]; exact n0, by rw [N 22 rfl, N 1 rfl]; exact n22, hn.1, hn.2, by rw [N 16 rfl, N 6 rfl]; exact n16, by rw [N 6 rfl]; exact n6, by rw [N 18 rfl, N 7 rfl]; exact n18, by rw [N 7 rfl]; exact n7, by rw [N 19 rfl, N 8 rfl]; exact n19, by rw [N 8 rfl]; exact n8, by rw [N 20 rfl, N 9 rfl]; exact n20, by rw [N 9 rfl]; exact n9, by rw [N 21 rfl, N 10 rfl]; exact n21, by rw [N 10 rfl]; exact n10, by rw [N 23 rfl, N 11 rfl]; exact n23, by rw [N 11 rfl]; exact n11, by rw [N 24 rfl, N 12 rfl]; exact n24⟩, ?_, hd, ?_, ?_, ?_, ?_, ?_, ?_, ?_, ?_, ?_⟩
  · unfold rL; rw [cL]; exact hL
  · unfold rI; rw [A 56 rfl, A 9 rfl]; exact hI
  · unfold rB; rw [A 47 rfl, A 14 rfl, A 48 rfl, A 15 rfl, N 6 rfl, A 49 rfl, A 16 rfl, A 50 rfl, A 17 rfl, A 51 rfl, A 18 rfl]; exact hB
  · intro j; simp only [O]; rw [A 19 rfl, A 20 rfl, A 21 rfl, A 22 rfl, A 23 rfl, A 24 rfl, A 25 rfl, A 26 rfl, A 27 rfl, A 28 rfl]; exact hF j
  · unfold rV; rw [A 19 rfl, A 20 rfl, A 22 rfl, A 24 rfl, A 25 rfl, A 26 rfl, A 27 rfl, N 7 rfl, N 0 rfl]; exact hV
  · intro j hj; rw [N 7 rfl] at hj; rw [O, SW, N 0 rfl]; exact hS j hj
  · unfold rW; rw [A 55 rfl, A 36 rfl, A 37 rfl, A 38 rfl, A 39 rfl, N 10 rfl, N 0 rfl, N 7 rfl]; exact hW
  · unfold rK; rw [A 53 rfl, A 30 rfl, A 31 rfl, A 32 rfl, A 33 rfl]; exact hK
  · unfold rQ; rw [A 54 rfl, A 34 rfl, A 35 rfl, N 9 rfl, N 7 rfl]; exact hQ
  · unfold rT; rw [A 57 rfl, A 45 rfl, A 43 rfl, N 11 rfl]; exact hT
set_option maxHeartbeats 1000000 in
theorem st_clear (G : GT) (S : St) (h : Rel S)  : ∃ (r : Int32) (S1 S2 : St), rX7_clear G 10 [.ref (gad G 0)] S (some (.int r)) S1 ∧ rX8_clear G 10 [.ref (gad G 8)] S1 (some (.int r)) S2 ∧ Rel S2 := by
  have h0 := id h
  obtain ⟨hN, hL, hD, hI, hB, hF, hV, hS, hW, hK, hQ, hT⟩ := h0
  obtain ⟨n13, n14, n0, n22, n15, n2, n16, n6, n18, n7, n19, n8, n20, n9, n21, n10, n23, n11, n24⟩ := id hN
  refine ⟨nI (S.1 2), sN S 2 0, sN (sN S 2 0) 15 0, m_X7_clear 8 G S, ?_, ⟨⟨n13, n14, n0, n22, rfl, Nat.zero_le _, n16, n6, n18, n7, n19, n8, n20, n9, n21, n10, n23, n11, n24⟩, hL, hD, hI, hB, hF, hV, hS, hW, hK, hQ, hT⟩⟩
  have e : S.1 2 = (sN S 2 0).1 15 := n15.symm
  rw [e]
  exact m_X8_clear 9 G (sN S 2 0) n13
set_option maxHeartbeats 1000000 in
theorem st_type (G : GT) (S : St) (h : Rel S) (v : Int64) (n : Int32) : ∃ (r : Int32) (S1 S2 : St), rX7_type G 10 [.ref (gad G 0), .long v, .int n] S (some (.int r)) S1 ∧ rX8_type G 10 [.ref (gad G 8), .long v, .int n] S1 (some (.int r)) S2 ∧ Rel S2 := by
  have h0 := id h
  obtain ⟨hN, hL, hD, hI, hB, hF, hV, hS, hW, hK, hQ, hT⟩ := h0
  obtain ⟨n13, n14, n0, n22, n15, n2, n16, n6, n18, n7, n19, n8, n20, n9, n21, n10, n23, n11, n24⟩ := id hN
  cases hb : inR n (nI 1) (nI 8) with
  | false => exact ⟨-1, S, S, m_X7_type_bad 8 G S v n hb, m_X8_type_bad 8 G S n13 v n hb, h⟩
  | true =>
    obtain ⟨k, rfl, hk1, hk8⟩ := inR_of hb (by decide) (by decide)
    by_cases hf : 60 < S.1 2 + k
    · exact ⟨-3, S, S, m_X7_type_full 8 G S v k hk1 hk8 n2 hf, m_X8_type_full 8 G S n13 v k hk1 hk8 (by omega) (by omega), h⟩
    · have a15 : (apX v k S).1 15 = S.1 15 := apX_n v (by decide) k S
      refine ⟨nI (S.1 2 + k), apX v k S, apM v k (apX v k S), m_X7_type_ok 8 G S v k hk1 hk8 (by omega), ?_, ?_⟩
      · have := m_X8_type_ok 8 G (apX v k S) ((apX_n v (by decide) k S).trans n13) v k hk1 hk8 (by omega)
        rw [a15, n15] at this
        exact this
      · have cN : ∀ j, j ≠ 2 → j ≠ 15 → (apM v k (apX v k S)).1 j = S.1 j := fun j h1 h2 => (apM_n v h2 k _).trans (apX_n v h1 k S)
        have cA : ∀ j, j ≠ 10 → j ≠ 46 → (apM v k (apX v k S)).2.1 j = S.2.1 j := fun j h1 h2 => (apM_o v h2 k _).trans (apX_o v h1 k S)
        have cL : (apM v k (apX v k S)).2.2 = S.2.2 := (apM_l v k _).trans (apX_l v k S)
        have c2 : (apM v k (apX v k S)).1 2 = S.1 2 + k := (apM_n v (by decide) k _).trans (apX_2 v k S)
        have c15 : (apM v k (apX v k S)).1 15 = S.1 2 + k := by rw [apM_15, a15, n15]
        have c10 : (apM v k (apX v k S)).2.1 10 = wrB v k (S.1 2) (S.2.1 10) := (apM_o v (by decide) k _).trans (apX_A v k S)
        have c46 : (apM v k (apX v k S)).2.1 46 = wrB v k (S.1 2) (S.2.1 10) := by rw [apM_A v k _ hk8, a15, n15, apX_o v (by decide), hD.1]
        generalize apM v k (apX v k S) = T at cN cA cL c2 c15 c10 c46
        refine rel_frame h (fun j hj => ?_) (fun j hj => ?_) cL ?_ ?_
        · exact cN j (by omega) (by omega)
        · exact cA j (by omega) (by omega)
        · rw [c2, c15]; exact ⟨rfl, by omega⟩
        · refine ⟨by rw [c46, c10], ?_⟩
          rw [c10]
          exact wrB_ok v k _ _ hD.2
set_option maxHeartbeats 1000000 in
theorem st_span (G : GT) (S : St) (h : Rel S) (a b : Int32) : ∃ (r : Int32) (S1 S2 : St), rX7_span G 10 [.ref (gad G 0), .int a, .int b] S (some (.int r)) S1 ∧ rX8_span G 10 [.ref (gad G 8), .int a, .int b] S1 (some (.int r)) S2 ∧ Rel S2 := by
  have h0 := id h
  obtain ⟨hN, hL, hD, hI, hB, hF, hV, hS, hW, hK, hQ, hT⟩ := h0
  obtain ⟨n13, n14, n0, n22, n15, n2, n16, n6, n18, n7, n19, n8, n20, n9, n21, n10, n23, n11, n24⟩ := id hN
  cases hb : (inR a (nI 0) (nI 2) && inR b (nI 0) (nI 500)) with
  | false => exact ⟨-1, S, S, m_X7_span_bad 7 G S a b hb, m_X8_span_bad 8 G S n13 a b hb, h⟩
  | true =>
    simp only [Bool.and_eq_true] at hb
    exact ⟨_, S, S, m_X7_span_ok 7 G S a b hb.1 hb.2 h.bk, by rw [← h.sp]; exact m_X8_span_ok 8 G S n13 a b hb.1 hb.2 h.bm, h⟩
set_option maxHeartbeats 1000000 in
theorem st_days (G : GT) (S : St) (h : Rel S) (n : Int32) : ∃ (r : Int32) (S1 S2 : St), rX7_days G 10 [.ref (gad G 0), .int n] S (some (.int r)) S1 ∧ rX8_days G 10 [.ref (gad G 8), .int n] S1 (some (.int r)) S2 ∧ Rel S2 := by
  have h0 := id h
  obtain ⟨hN, hL, hD, hI, hB, hF, hV, hS, hW, hK, hQ, hT⟩ := h0
  obtain ⟨n13, n14, n0, n22, n15, n2, n16, n6, n18, n7, n19, n8, n20, n9, n21, n10, n23, n11, n24⟩ := id hN
  cases hb : inR n (nI 1) (nI 50) with
  | false => exact ⟨-1, S, S, m_X7_days_bad 8 G S n hb, m_X8_days_bad 8 G S n13 n hb, h⟩
  | true =>
    obtain ⟨k, rfl, hk1, hk5⟩ := inR_of hb (by decide) (by decide)
    by_cases hf : 500 < S.1 0 + k
    · exact ⟨-2, S, S, m_X7_days_state 8 G S k hk1 hk5 n0 hf, m_X8_days_state 8 G S n13 k hk1 hk5 (by omega) (by omega), h⟩
    · refine ⟨nI (S.1 0 + k), sN S 0 (S.1 0 + k), sN (sN S 0 (S.1 0 + k)) 14 (S.1 0 + k), m_X7_days_ok 8 G S k hk1 hk5 (by omega), ?_, ⟨⟨n13, rfl, (by show S.1 0 + k ≤ 500; omega), n22, n15, n2, n16, n6, n18, n7, n19, n8, n20, n9, n21, n10, n23, n11, n24⟩, hL, hD, hI, hB, hF, ?_, ?_, ?_, hK, hQ, hT⟩⟩
      · have := m_X8_days_ok 8 G (sN S 0 (S.1 0 + k)) n13 k hk1 hk5 (by show S.1 14 + k ≤ 500; omega)
        rw [show (sN S 0 (S.1 0 + k)).1 14 = S.1 0 from n14] at this
        exact this
      · intro j hj
        obtain ⟨a1, a2, a3, a4, a5, a6, a7⟩ := hV j hj
        exact ⟨a1, a2, a3, a4, a5, a6, a7.1, Nat.le_trans a7.2 (Nat.le_add_right _ _)⟩
      · intro j hj
        refine (hS j hj).trans ?_
        show swX S j (nI (S.1 0)) = swX S j (nI (S.1 0 + k))
        unfold swX
        rw [laL_day (d1 := nI (S.1 0)) (d2 := nI (S.1 0 + k)) _ (fun i hi => ?_)]
        have := hW.2.1 i hi
        rw [this.1, nI_leI (by omega) (by omega), nI_leI (by omega) (by omega)]
        omega
      · exact ⟨hW.1, fun i hi => ⟨(hW.2.1 i hi).1, Nat.le_trans (hW.2.1 i hi).2 (Nat.le_add_right _ _)⟩, hW.2.2⟩
set_option maxHeartbeats 1000000 in
theorem st_draught (G : GT) (S : St) (h : Rel S) (f : Int32) : ∃ (r : Int32) (S1 S2 : St), rX7_draught G 10 [.ref (gad G 0), .int f] S (some (.int r)) S1 ∧ rX8_draught G 10 [.ref (gad G 8), .int f] S1 (some (.int r)) S2 ∧ Rel S2 := by
  have h0 := id h
  obtain ⟨hN, hL, hD, hI, hB, hF, hV, hS, hW, hK, hQ, hT⟩ := h0
  obtain ⟨n13, n14, n0, n22, n15, n2, n16, n6, n18, n7, n19, n8, n20, n9, n21, n10, n23, n11, n24⟩ := id hN
  cases hb : hasB f (S.1 7) with
  | false => exact ⟨-1, S, S, m_X7_draught_bad 8 G S f n7 hb, m_X8_draught_bad 7 G S n13 f (by omega) (by rw [n18]; exact hb), h⟩
  | true =>
    obtain ⟨i, rfl, hi⟩ := hasB_of hb (by omega)
    obtain ⟨⟨k1, k2⟩, ⟨f1, f2⟩, w1, -⟩ := hV i hi
    obtain ⟨q0, q1, q2, q3, q4, -⟩ := hF i
    have hw0 : ¬ ofM S i 3 = 0 := by rw [q3]; intro z; exact w1 (by rw [z]; decide)
    have epu : ∀ k, puM S i k = pulR S i k := fun k => by unfold puM pulR; rw [q2, q3]
    have emn : ∀ z, mn0 z = mx0 z := by
      intro z
      unfold mn0 mx0
      by_cases z0 : 0 ≤ z
      · rw [if_pos z0]
        by_cases z1 : nI 0 < z
        · rw [if_pos z1]
        · rw [if_neg z1]
          apply Int32.toInt_inj.mp
          rw [Int32.le_iff_toInt_le] at z0
          rw [Int32.lt_iff_toInt_lt] at z1
          have e0 : (0 : Int32).toInt = 0 := rfl
          have e1 : (nI 0).toInt = 0 := rfl
          omega
      · rw [if_neg z0, if_neg]
        intro z1
        apply z0
        rw [Int32.le_iff_toInt_le]
        rw [Int32.lt_iff_toInt_lt] at z1
        have e0 : (0 : Int32).toInt = 0 := rfl
        have e1 : (nI 0).toInt = 0 := rfl
        omega
    rcases (show tn (S.2.1 19 i) = 0 ∨ tn (S.2.1 19 i) = 1 ∨ tn (S.2.1 19 i) = 2 by omega) with e | e | e <;> rw [e] at k1
    · refine ⟨_, _, sL (sL S 0 (S.2.2.1 0 + 1)) 1 (S.2.2.1 1 + 1), m_X7_draught_0 5 G S i hi n7 w1 _ f1 f2 k1, ?_, ?_⟩
      · have := m_X8_draught_0 7 G (sL S 0 (S.2.2.1 0 + 1)) n13 i (by show i < S.1 18; omega) (by show S.1 18 ≤ 12; omega) hw0 _ (q1.trans f1) f2 (q0.trans k1)
        rw [show puM (sL S 0 (S.2.2.1 0 + 1)) i (tn (S.2.1 20 i)) = pulR S i (tn (S.2.1 20 i)) from epu _] at this
        exact this
      · exact ⟨hN, (by show S.2.2.1 1 + 1 = S.2.2.1 0 + 1; rw [hL]), hD, hI, hB, hF, hV, hS, hW, hK, hQ, hT⟩
    · refine ⟨_, _, sL (sL S 0 (S.2.2.1 0 + 10 + 1)) 1 (S.2.2.1 1 + 11), m_X7_draught_1 5 G S i hi n7 w1 _ f1 f2 k1, ?_, ?_⟩
      · have := m_X8_draught_1 7 G (sL S 0 (S.2.2.1 0 + 10 + 1)) n13 i (by show i < S.1 18; omega) (by show S.1 18 ≤ 12; omega) hw0 _ (q1.trans f1) f2 (q0.trans k1)
        rw [show puM (sL S 0 (S.2.2.1 0 + 10 + 1)) i (tn (S.2.1 20 i)) = pulR S i (tn (S.2.1 20 i)) from epu _, emn, show ofM (sL S 0 (S.2.2.1 0 + 10 + 1)) i 4 = S.2.1 23 i from q4] at this
        exact this
      · exact ⟨hN, (by show S.2.2.1 1 + 11 = S.2.2.1 0 + 10 + 1; rw [hL, Int64.add_assoc]; rfl), hD, hI, hB, hF, hV, hS, hW, hK, hQ, hT⟩
    · refine ⟨_, _, sL (sL S 0 (S.2.2.1 0 + 100 + 10 + 1)) 1 (S.2.2.1 1 + 111), m_X7_draught_2 5 G S i hi n7 w1 _ f1 f2 k1, ?_, ?_⟩
      · have := m_X8_draught_2 7 G (sL S 0 (S.2.2.1 0 + 100 + 10 + 1)) n13 i (by show i < S.1 18; omega) (by show S.1 18 ≤ 12; omega) hw0 _ (q1.trans f1) f2 (q0.trans k1)
        rw [show puM (sL S 0 (S.2.2.1 0 + 100 + 10 + 1)) i (tn (S.2.1 20 i)) = pulR S i (tn (S.2.1 20 i)) from epu _, emn, show ofM (sL S 0 (S.2.2.1 0 + 100 + 10 + 1)) i 4 = S.2.1 23 i from q4] at this
        exact this
      · exact ⟨hN, (by show S.2.2.1 1 + 111 = S.2.2.1 0 + 100 + 10 + 1; rw [hL, Int64.add_assoc, Int64.add_assoc]; rfl), hD, hI, hB, hF, hV, hS, hW, hK, hQ, hT⟩
set_option maxHeartbeats 1000000 in
theorem st_about (G : GT) (S : St) (h : Rel S) (f w : Int32) : ∃ (r : Int32) (S1 S2 : St), rX7_about G 10 [.ref (gad G 0), .int f, .int w] S (some (.int r)) S1 ∧ rX8_about G 10 [.ref (gad G 8), .int f, .int w] S1 (some (.int r)) S2 ∧ Rel S2 := by
  have h0 := id h
  obtain ⟨hN, hL, hD, hI, hB, hF, hV, hS, hW, hK, hQ, hT⟩ := h0
  obtain ⟨n13, n14, n0, n22, n15, n2, n16, n6, n18, n7, n19, n8, n20, n9, n21, n10, n23, n11, n24⟩ := id hN
  cases hb : hasB f (S.1 7) with
  | false => exact ⟨-1, S, S, m_X7_about_bad 8 G S f n7 hb w, m_X8_about_bad 7 G S n13 f w (by omega) (by rw [n18, hb]; rfl), h⟩
  | true =>
    obtain ⟨i, rfl, hi⟩ := hasB_of hb (by omega)
    obtain ⟨q0, q1, q2, q3, q4, q5, q6, q7, q8, q10⟩ := hF i
    cases hw : inR w (nI 0) (nI 7) with
    | false => exact ⟨-1, S, S, m_X7_about_out 8 G S i hi n7 w hw, m_X8_about_bad 7 G S n13 (nI i) w (by omega) (by rw [hw, Bool.and_false]), h⟩
    | true =>
      obtain ⟨k, rfl, -, hk⟩ := inR_of hw (by decide) (by decide)
      rcases (show k = 0 ∨ k = 1 ∨ k = 2 ∨ k = 3 ∨ k = 4 ∨ k = 5 ∨ k = 6 ∨ k = 7 by omega) with rfl | rfl | rfl | rfl | rfl | rfl | rfl | rfl
      · exact ⟨_, S, S, m_X7_about_0 8 G S i hi n7, by rw [← q0]; exact m_X8_about_0 7 G S n13 i (by omega) (by omega), h⟩
      · exact ⟨_, S, S, m_X7_about_1 8 G S i hi n7, by rw [← q1]; exact m_X8_about_1 7 G S n13 i (by omega) (by omega), h⟩
      · exact ⟨_, S, S, m_X7_about_2 8 G S i hi n7, by rw [← q2]; exact m_X8_about_2 7 G S n13 i (by omega) (by omega), h⟩
      · exact ⟨_, S, S, m_X7_about_3 8 G S i hi n7, by rw [← q7]; exact m_X8_about_3 7 G S n13 i (by omega) (by omega), h⟩
      · exact ⟨_, S, S, m_X7_about_4 7 G S i hi n7 n10, by rw [← (hS i hi)]; exact m_X8_about_4 7 G S n13 i (by omega) (by omega), h⟩
      · exact ⟨_, S, S, m_X7_about_5 8 G S i hi n7, by rw [← q10]; exact m_X8_about_5 7 G S n13 i (by omega) (by omega), h⟩
      · exact ⟨_, S, S, m_X7_about_6 7 G S i hi n7 n8, by rw [← (congrArg bI (h.fo i))]; exact m_X8_about_6 7 G S n13 i (by omega) (by omega) (by omega), h⟩
      · exact ⟨_, S, S, m_X7_about_7 6 G S i hi n7 h.hd, by rw [← (h.do_ hi)]; exact m_X8_about_7 7 G S n13 i (by omega) (by omega) (h.hdm i (by omega)), h⟩
