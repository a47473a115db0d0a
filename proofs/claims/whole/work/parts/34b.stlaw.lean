theorem rsX_N {S : St} {x : Int32} {j : Nat} (h : j ≠ 3 ∧ j ≠ 4 ∧ j ≠ 5) : (rsX S x).2.1 j = S.1 j := by
  obtain ⟨h3, h4, h5⟩ := h
  have hp : ∀ f, (rpX S f).2.1 j = S.1 j := by
    intro f
    unfold rpX
    split
    · show (if j = 3 then _ else (rnX S 1 200).2.1 j) = _
      rw [if_neg h3]; exact rnX_N h4
    · exact rnX_N h4
  unfold rsX
  split
  · show (if j = 4 then _ else S.1 j) = _
    rw [if_neg h4]
  · split
    · unfold rfX
      split
      · show (if j = 5 then _ else (rnX S 0 500).2.1 j) = _
        rw [if_neg h5]; exact rnX_N h4
      · exact rnX_N h4
    · split
      · exact hp 2
      · split
        · exact hp 0
        · split
          · exact hp 1
          · rfl
theorem rsX_A {S : St} {x : Int32} {j : Nat} (h : j < 11 ∨ 13 < j) : (rsX S x).2.2.1 j = S.2.1 j := by
  have hp : ∀ f, (rpX S f).2.2.1 j = S.2.1 j := by
    intro f
    unfold rpX
    split
    · show (sA (sA (sA (rnX S 1 200).2 11 _ _) 12 _ _) 13 _ _).2.1 j = _
      rw [sA_A, if_neg (by omega), sA_A, if_neg (by omega), sA_A, if_neg (by omega), rnX_A]
    · show (rnX S 1 200).2.2.1 j = _
      rw [rnX_A]
  unfold rsX
  split
  · rfl
  · split
    · unfold rfX
      split
      · show (rnX S 0 500).2.2.1 j = _
        rw [rnX_A]
      · show (rnX S 0 500).2.2.1 j = _
        rw [rnX_A]
    · split
      · exact hp 2
      · split
        · exact hp 0
        · split
          · exact hp 1
          · rfl
theorem rsX_L {S : St} {x : Int32} : (rsX S x).2.2.2.1 = S.2.2.1 := by
  have hp : ∀ f, (rpX S f).2.2.2.1 = S.2.2.1 := by
    intro f
    unfold rpX
    split
    · exact rnX_L
    · exact rnX_L
  unfold rsX
  split
  · rfl
  · split
    · unfold rfX
      split
      · exact rnX_L
      · exact rnX_L
    · split
      · exact hp 2
      · split
        · exact hp 0
        · split
          · exact hp 1
          · rfl
theorem riX_N {j : Nat} (h : j ≠ 3 ∧ j ≠ 4 ∧ j ≠ 5) : ∀ (k : Nat) (S : St), (riX k S).2.1 j = S.1 j
  | 0, S => rfl
  | k + 1, S => by
    unfold riX
    split
    · rfl
    · split
      · rw [riX_N h k, rsX_N h]
      · exact rsX_N h
theorem riX_A {j : Nat} (h : j < 11 ∨ 13 < j) : ∀ (k : Nat) (S : St), (riX k S).2.2.1 j = S.2.1 j
  | 0, S => rfl
  | k + 1, S => by
    unfold riX
    split
    · rfl
    · split
      · rw [riX_A h k, rsX_A h]
      · exact rsX_A h
theorem riX_L : ∀ (k : Nat) (S : St), (riX k S).2.2.2.1 = S.2.2.1
  | 0, S => rfl
  | k + 1, S => by
    unfold riX
    split
    · rfl
    · split
      · rw [riX_L k, rsX_L]
      · exact rsX_L
theorem cpS_L {e : Nat} {S : St} : ∀ {n : Nat}, (cpS e S n).2.2 = S.2.2
  | 0 => rfl
  | n + 1 => cpS_L (n := n)
theorem cpS_v {e : Nat} {S : St} : ∀ (n i : Nat), (cpS e S n).2.1 16 i = (if e ≤ i ∧ i < e + n then S.2.1 11 (i - e) else S.2.1 16 i) ∧ (cpS e S n).2.1 17 i = (if e ≤ i ∧ i < e + n then S.2.1 12 (i - e) else S.2.1 17 i) ∧ (cpS e S n).2.1 18 i = (if e ≤ i ∧ i < e + n then S.2.1 13 (i - e) else S.2.1 18 i)
  | 0, i => by
    rw [if_neg (by omega), if_neg (by omega), if_neg (by omega)]
    exact ⟨rfl, rfl, rfl⟩
  | n + 1, i => by
    have ih := cpS_v (e := e) (S := S) n i
    show upd ((cpS e S n).2.1 16) (e + n) (S.2.1 11 n) i = _ ∧ upd ((cpS e S n).2.1 17) (e + n) (S.2.1 12 n) i = _ ∧ upd ((cpS e S n).2.1 18) (e + n) (S.2.1 13 n) i = _
    by_cases h : i = e + n
    · subst h
      rw [upd_s, upd_s, upd_s, if_pos (by omega), if_pos (by omega), if_pos (by omega), show e + n - e = n by omega]
      exact ⟨rfl, rfl, rfl⟩
    · rw [upd_n h, upd_n h, upd_n h, ih.1, ih.2.1, ih.2.2]
      by_cases h2 : e ≤ i ∧ i < e + n
      · rw [if_pos h2, if_pos h2, if_pos h2, if_pos (by omega), if_pos (by omega), if_pos (by omega)]
        exact ⟨rfl, rfl, rfl⟩
      · rw [if_neg h2, if_neg h2, if_neg h2, if_neg (by omega), if_neg (by omega), if_neg (by omega)]
        exact ⟨rfl, rfl, rfl⟩
def NL (j : Nat) : Bool := decide (j < 2) || (decide (6 < j) && decide (j < 15)) || decide (17 < j)
def AL (j : Nat) : Bool := decide (j < 11) || (decide (18 < j) && decide (j < 47)) || decide (51 < j)
theorem NL_of {j : Nat} (h : NL j = true) : j < 2 ∨ (6 < j ∧ j < 15) ∨ 17 < j := by
  simp only [NL, Bool.or_eq_true, Bool.and_eq_true, decide_eq_true_eq] at h
  omega
theorem AL_of {j : Nat} (h : AL j = true) : j < 11 ∨ (18 < j ∧ j < 47) ∨ 51 < j := by
  simp only [AL, Bool.or_eq_true, Bool.and_eq_true, decide_eq_true_eq] at h
  omega
theorem rel_law {S T : St} (h : Rel S) (N : ∀ j, NL j = true → T.1 j = S.1 j) (A : ∀ j, AL j = true → T.2.1 j = S.2.1 j) (cL : T.2.2.1 = S.2.2.1) (hn : T.1 15 = T.1 2 ∧ T.1 2 ≤ 60 ∧ T.1 16 = T.1 6 ∧ T.1 6 ≤ 6) (hB : rB T) : Rel T := by
  obtain ⟨hN, hL, hD, hI, -, hF, hV, hS, hW, hK, hQ, hT⟩ := h
  obtain ⟨n13, n14, n0, n22, n15, n2, n16, n6, n18, n7, n19, n8, n20, n9, n21, n10, n23, n11, n24⟩ := hN
  have O : ∀ i c, ofM T i c = ofM S i c := fun i c => by unfold ofM; rw [A 52 rfl]
  have SW : ∀ i d, swX T i d = swX S i d := fun i d => by unfold swX; rw [A 36 rfl, A 37 rfl, A 27 rfl, N 10 rfl]
  refine ⟨⟨by rw [N 13 rfl]; exact n13, by rw [N 14 rfl, N 0 rfl]; exact n14, by rw [N 0 rfl]; exact n0, by rw [N 22 rfl, N 1 rfl]; exact n22, hn.1, hn.2.1, hn.2.2.1, hn.2.2.2, by rw [N 18 rfl, N 7 rfl]; exact n18, by rw [N 7 rfl]; exact n7, by rw [N 19 rfl, N 8 rfl]; exact n19, by rw [N 8 rfl]; exact n8, by rw [N 20 rfl, N 9 rfl]; exact n20, by rw [N 9 rfl]; exact n9, by rw [N 21 rfl, N 10 rfl]; exact n21, by rw [N 10 rfl]; exact n10, by rw [N 23 rfl, N 11 rfl]; exact n23, by rw [N 11 rfl]; exact n11, by rw [N 24 rfl, N 12 rfl]; exact n24⟩, ?_, ?_, ?_, hB, ?_, ?_, ?_, ?_, ?_, ?_, ?_⟩
  · unfold rL; rw [cL]; exact hL
  · unfold rD; rw [A 46 rfl, A 10 rfl]; exact hD
  · unfold rI; rw [A 56 rfl, A 9 rfl]; exact hI
  · intro j; simp only [O]; rw [A 19 rfl, A 20 rfl, A 21 rfl, A 22 rfl, A 23 rfl, A 24 rfl, A 25 rfl, A 26 rfl, A 27 rfl, A 28 rfl]; exact hF j
  · unfold rV; rw [A 19 rfl, A 20 rfl, A 22 rfl, A 24 rfl, A 25 rfl, A 26 rfl, A 27 rfl, N 7 rfl, N 0 rfl]; exact hV
  · intro j hj; rw [N 7 rfl] at hj; rw [O, SW, N 0 rfl]; exact hS j hj
  · unfold rW; rw [A 55 rfl, A 36 rfl, A 37 rfl, A 38 rfl, A 39 rfl, N 10 rfl, N 0 rfl, N 7 rfl]; exact hW
  · unfold rK; rw [A 53 rfl, A 30 rfl, A 31 rfl, A 32 rfl, A 33 rfl]; exact hK
  · unfold rQ; rw [A 54 rfl, A 34 rfl, A 35 rfl, N 9 rfl, N 7 rfl]; exact hQ
  · unfold rT; rw [A 57 rfl, A 45 rfl, A 43 rfl, N 11 rfl]; exact hT
def T0 (S : St) : St := sN (sN (sN S 3 0) 4 0) 5 0
theorem T0_N {S : St} {j : Nat} (h : j ≠ 3 ∧ j ≠ 4 ∧ j ≠ 5) : (T0 S).1 j = S.1 j := by
  unfold T0
  rw [sN_N, if_neg h.2.2, sN_N, if_neg h.2.1, sN_N, if_neg h.1]
/-- the model's reading over a state that holds the draft as it was -/
theorem law_pair {S V : St} (h : Rel S) (e15 : V.1 15 = S.1 15) (e46 : V.2.1 46 = S.2.1 46) (n0 : Nat) : ByM V ∧ (riX 60 (T0 S)).1 = (rdM 60 V n0 0 0).1 ∧ ((riX 60 (T0 S)).1 = -9 → (rdM 60 V n0 0 0).2.1 17 = n0 + (riX 60 (T0 S)).2.1 3 ∧ LRa n0 (riX 60 (T0 S)).2 (rdM 60 V n0 0 0).2 ∧ (riX 60 (T0 S)).2.1 3 ≤ 30) ∧ ∀ i, i < n0 → (rdM 60 V n0 0 0).2.2.1 49 i = V.2.1 49 i ∧ (rdM 60 V n0 0 0).2.2.1 50 i = V.2.1 50 i ∧ (rdM 60 V n0 0 0).2.2.1 51 i = V.2.1 51 i := by
  obtain ⟨hN, hL, hD, -⟩ := h
  have n15 : S.1 15 = S.1 2 := hN.2.2.2.2.1
  have n2 : S.1 2 ≤ 60 := hN.2.2.2.2.2.1
  have hb : ByM V := by
    intro i
    rw [e46, hD.1]
    exact hD.2 i
  refine ⟨hb, ?_⟩
  exact ri_rd (n0 := n0) 60 (T0 S) V ⟨by rw [e15, n15]; rfl, by rw [e46, hD.1]; rfl, hb, by omega, Nat.zero_le _, Nat.zero_le _, fun i hi => absurd hi (Nat.not_lt_zero i)⟩ (by omega)
theorem law_frame {S V : St} (h : Rel S) (N : ∀ j, (j ≠ 3 ∧ j ≠ 4 ∧ j ≠ 5 ∧ j ≠ 17) → V.1 j = S.1 j) (A : ∀ j, (j < 11 ∨ (13 < j ∧ j < 49) ∨ 51 < j) → V.2.1 j = S.2.1 j) (cL : V.2.2.1 = S.2.2.1) (hi : ∀ i, i < tn (S.2.1 15 (S.1 6)) → V.2.1 49 i = S.2.1 49 i ∧ V.2.1 50 i = S.2.1 50 i ∧ V.2.1 51 i = S.2.1 51 i) : Rel V := by
  obtain ⟨hN, hL, hD, hI, hB, -⟩ := id h
  refine rel_law h (fun j hj => N j ?_) (fun j hj => A j ?_) cL ?_ ?_
  · have := NL_of hj; omega
  · have := AL_of hj; omega
  · rw [N 15 (by omega), N 2 (by omega), N 16 (by omega), N 6 (by omega)]
    exact ⟨hN.2.2.2.2.1, hN.2.2.2.2.2.1, hN.2.2.2.2.2.2.1, hN.2.2.2.2.2.2.2.1⟩
  · unfold rB
    rw [A 47 (by omega), A 14 (by omega), A 48 (by omega), A 15 (by omega), N 6 (by omega), A 16 (by omega), A 17 (by omega), A 18 (by omega)]
    refine ⟨hB.1, hB.2.1, hB.2.2.1, fun i h => ?_⟩
    have h1 := hi i h
    have h2 := hB.2.2.2 i h
    exact ⟨h1.1.trans h2.1, h1.2.1.trans h2.2.1, h1.2.2.trans h2.2.2.1, h2.2.2.2⟩
set_option maxHeartbeats 1000000 in
theorem st_law (G : GT) (S : St) (h : Rel S)  : ∃ (r : Int32) (S1 S2 : St), rX7_law G 10 [.ref (gad G 0)] S (some (.int r)) S1 ∧ rX8_law G 10 [.ref (gad G 8)] S1 (some (.int r)) S2 ∧ Rel S2 := by
  have h0 := id h
  obtain ⟨hN, hL, hD, hI, hB, hF, hV, hS, hW, hK, hQ, hT⟩ := h0
  obtain ⟨n13, n14, n0, n22, n15, n2, n16, n6, n18, n7, n19, n8, n20, n9, n21, n10, n23, n11, n24⟩ := id hN
  have hSt := hB.2.2.1
  have h6 := hSt.1 (S.1 6) (Nat.le_refl _)
  by_cases h2 : S.1 2 = 0
  · exact ⟨-2, S, S, m_X7_law_empty 4 G S h2, m_X8_law_empty 6 G S n13 (by omega), h⟩
  have hok : OkP (T0 S) := ⟨n2, Nat.zero_le _, Nat.zero_le _, hD.2⟩
  have uN : ∀ j, (j ≠ 3 ∧ j ≠ 4 ∧ j ≠ 5) → (riX 60 (T0 S)).2.1 j = S.1 j := fun j hj => (riX_N hj 60 _).trans (T0_N hj)
  have uA : ∀ j, (j < 11 ∨ 13 < j) → (riX 60 (T0 S)).2.2.1 j = S.2.1 j := fun j hj => riX_A hj 60 _
  have uL : (riX 60 (T0 S)).2.2.2.1 = S.2.2.1 := riX_L 60 _
  have hx1 := m_X7_law_fault 4 G S hok hq_ok (by omega) n2
  have hx2 := m_X7_law_full 4 G S hok hq_ok (by omega) n2
  have hx3 := m_X7_law_ok 4 G S hok hq_ok (by omega) n2
  change ¬ (riX 60 (T0 S)).1 = -9 → rX7_law G 10 [.ref (gad G 0)] S (some (.int ((-100) - (riX 60 (T0 S)).1))) (riX 60 (T0 S)).2 at hx1
  change (riX 60 (T0 S)).1 = -9 → (riX 60 (T0 S)).2.1 6 = 6 → rX7_law G 10 [.ref (gad G 0)] S (some (.int (-3))) (riX 60 (T0 S)).2 at hx2
  change ∀ (hf : (riX 60 (T0 S)).1 = -9) (h6 : (riX 60 (T0 S)).2.1 6 < 6) (e : Nat) (he : (riX 60 (T0 S)).2.2.1 15 ((riX 60 (T0 S)).2.1 6) = nI e) (hn : (riX 60 (T0 S)).2.1 3 ≤ 30) (hen : e + (riX 60 (T0 S)).2.1 3 ≤ 180), rX7_law G 10 [.ref (gad G 0)] S (some (.int (nI ((riX 60 (T0 S)).2.1 6)))) (sN (sA (sN (sA (cpS e (riX 60 (T0 S)).2 ((riX 60 (T0 S)).2.1 3)) 14 ((riX 60 (T0 S)).2.1 6) (nI ((riX 60 (T0 S)).2.1 0))) 6 ((riX 60 (T0 S)).2.1 6 + 1)) 15 ((riX 60 (T0 S)).2.1 6 + 1) (nI (e + (riX 60 (T0 S)).2.1 3))) 2 0) at hx3
  have hpair := fun V e15 e46 n0 => law_pair (S := S) (V := V) h e15 e46 n0
  generalize hR : riX 60 (T0 S) = R at *
  obtain ⟨r, U⟩ := R
  dsimp only at hx1 hx2 hx3 uN uA uL hpair
  by_cases hf : r = -9
  · by_cases hl : S.1 6 = 6
    · -- full
      obtain ⟨hb, p1, p2, p3⟩ := hpair U (uN 15 (by omega)) (uA 46 (by omega)) (tn (U.2.1 48 (U.1 16)))
      have e16 : U.1 16 = S.1 6 := (uN 16 (by omega)).trans n16
      have e48 : U.2.1 48 = S.2.1 15 := (uA 48 (by omega)).trans hB.2.1
      have en : U.2.1 48 (U.1 16) = S.2.1 15 (S.1 6) := by rw [e48, e16]
      refine ⟨-3, U, _, hx2 hf (by rw [uN 6 (by omega)]; exact hl), m_X8_law_full 6 G U ((uN 13 (by omega)).trans n13) hb (by rw [uN 15 (by omega)]; omega) (by omega) (by rw [en]; exact h6.1) (by rw [en]; omega) (by rw [uN 15 (by omega)]; omega) (by omega) (by rw [← p1]; exact hf), ?_⟩
      refine law_frame h (fun j hj => ?_) (fun j hj => ?_) ?_ (fun i hi => ?_)
      · rw [sN_N, if_neg (by omega), rdM_N (by omega)]; exact uN j (by omega)
      · rw [sN_A, rdM_A (by omega)]; exact uA j (by omega)
      · rw [sN_L]; exact (congrArg (fun z => z.1) (rdM_L _ _ _ _ _)).trans uL
      · have := p3 i (by rw [en]; exact hi)
        rw [sN_A]
        exact ⟨this.1.trans (congrFun (uA 49 (by omega)) i), this.2.1.trans (congrFun (uA 50 (by omega)) i), this.2.2.trans (congrFun (uA 51 (by omega)) i)⟩
    · -- a law
      have e6 : U.1 6 = S.1 6 := uN 6 (by omega)
      have e0 : U.1 0 = S.1 0 := uN 0 (by omega)
      have eU15 : U.2.1 15 = S.2.1 15 := uA 15 (by omega)
      have p30 : U.1 3 ≤ 30 := ((hpair U (uN 15 (by omega)) (uA 46 (by omega)) 0).2.2.1 hf).2.2
      have hX := hx3 hf (by omega) (tn (S.2.1 15 (S.1 6))) (by rw [eU15, e6]; exact h6.1) p30 (by omega)
      rw [e6, e0] at hX
      generalize hU1 : sN (sA (sN (sA (cpS (tn (S.2.1 15 (S.1 6))) U (U.1 3)) 14 (S.1 6) (nI (S.1 0))) 6 (S.1 6 + 1)) 15 (S.1 6 + 1) (nI ((tn (S.2.1 15 (S.1 6))) + U.1 3))) 2 0 = V at hX
      have vN : ∀ j, (j ≠ 2 ∧ j ≠ 3 ∧ j ≠ 4 ∧ j ≠ 5 ∧ j ≠ 6) → V.1 j = S.1 j := fun j hj => by
        rw [← hU1, sN_N, if_neg (by omega), sA_N, sN_N, if_neg (by omega), sA_N, cpS_N]; exact uN j (by omega)
      have vA : ∀ j, (j < 11 ∨ 18 < j) → V.2.1 j = S.2.1 j := fun j hj => by
        rw [← hU1, sN_A, sA_A, if_neg (by omega), sN_A, sA_A, if_neg (by omega), cpS_A (by omega)]; exact uA j (by omega)
      have vL : V.2.2.1 = S.2.2.1 := by
        rw [← hU1]
        show (cpS (tn (S.2.1 15 (S.1 6))) U (U.1 3)).2.2.1 = _
        rw [cpS_L]; exact uL
      have v6 : V.1 6 = S.1 6 + 1 := by rw [← hU1]; rfl
      have v2 : V.1 2 = 0 := by rw [← hU1]; rfl
      have v14 : V.2.1 14 = upd (S.2.1 14) (S.1 6) (nI (S.1 0)) := by
        rw [← hU1]
        show upd ((cpS (tn (S.2.1 15 (S.1 6))) U (U.1 3)).2.1 14) _ _ = _
        rw [cpS_14, uA 14 (by omega)]
      have v15 : V.2.1 15 = upd (S.2.1 15) (S.1 6 + 1) (nI ((tn (S.2.1 15 (S.1 6))) + U.1 3)) := by
        rw [← hU1]
        show upd ((cpS (tn (S.2.1 15 (S.1 6))) U (U.1 3)).2.1 15) _ _ = _
        rw [cpS_15, uA 15 (by omega)]
      have vi : ∀ i, V.2.1 16 i = (if (tn (S.2.1 15 (S.1 6))) ≤ i ∧ i < (tn (S.2.1 15 (S.1 6))) + U.1 3 then U.2.1 11 (i - (tn (S.2.1 15 (S.1 6)))) else S.2.1 16 i) ∧ V.2.1 17 i = (if (tn (S.2.1 15 (S.1 6))) ≤ i ∧ i < (tn (S.2.1 15 (S.1 6))) + U.1 3 then U.2.1 12 (i - (tn (S.2.1 15 (S.1 6)))) else S.2.1 17 i) ∧ V.2.1 18 i = (if (tn (S.2.1 15 (S.1 6))) ≤ i ∧ i < (tn (S.2.1 15 (S.1 6))) + U.1 3 then U.2.1 13 (i - (tn (S.2.1 15 (S.1 6)))) else S.2.1 18 i) := fun i => by
        have := cpS_v (e := (tn (S.2.1 15 (S.1 6)))) (S := U) (U.1 3) i
        rw [uA 16 (by omega), uA 17 (by omega), uA 18 (by omega)] at this
        rw [← hU1]
        exact this
      obtain ⟨hb, p1, p2, p3⟩ := hpair V (vN 15 (by omega)) (vA 46 (by omega)) (tn (V.2.1 48 (V.1 16)))
      have e16 : V.1 16 = S.1 6 := (vN 16 (by omega)).trans n16
      have e48 : V.2.1 48 = S.2.1 15 := (vA 48 (by omega)).trans hB.2.1
      have en : V.2.1 48 (V.1 16) = S.2.1 15 (S.1 6) := by rw [e48, e16]
      have hY := m_X8_law_ok 6 G V ((vN 13 (by omega)).trans n13) hb (by rw [vN 15 (by omega)]; omega) (by omega) (by rw [en]; exact h6.1) (by rw [en]; omega) (by rw [vN 15 (by omega)]; omega) (by omega) (by rw [← p1]; exact hf)
      obtain ⟨q17, qa, -⟩ := p2 hf
      rw [en] at hY q17 qa p3
      rw [q17, e16, show V.1 14 = S.1 0 from (vN 14 (by omega)).trans n14] at hY
      refine ⟨nI (S.1 6), V, _, hX, hY, ?_⟩
      generalize hZ : rdM 60 V (tn (S.2.1 15 (S.1 6))) 0 0 = Z at *
      obtain ⟨z, Y⟩ := Z
      have yN : ∀ j, j ≠ 17 → Y.1 j = V.1 j := fun j hj => by have := rdM_N hj 60 V (tn (S.2.1 15 (S.1 6))) 0 0; rw [hZ] at this; exact this
      have yA : ∀ j, (j < 49 ∨ 51 < j) → Y.2.1 j = V.2.1 j := fun j hj => by have := rdM_A hj 60 V (tn (S.2.1 15 (S.1 6))) 0 0; rw [hZ] at this; exact this
      have yL : Y.2.2 = V.2.2 := by have := rdM_L 60 V (tn (S.2.1 15 (S.1 6))) 0 0; rw [hZ] at this; exact this
      dsimp only at q17 qa p3
      refine rel_law h (fun j hj => ?_) (fun j hj => ?_) ?_ ?_ ?_
      · have := NL_of hj
        rw [sN_N, if_neg (by omega), sA_N, sN_N, if_neg (by omega), sA_N]
        exact (yN j (by omega)).trans (vN j (by omega))
      · have := AL_of hj
        rw [sN_A, sA_A, if_neg (by omega), sN_A, sA_A, if_neg (by omega)]
        exact (yA j (by omega)).trans (vA j (by omega))
      · show Y.2.2.1 = _
        rw [yL]; exact vL
      · refine ⟨?_, ?_, ?_, ?_⟩
        · show 0 = Y.1 2; rw [yN 2 (by omega), v2]
        · show Y.1 2 ≤ 60; rw [yN 2 (by omega), v2]; omega
        · show S.1 6 + 1 = Y.1 6; rw [yN 6 (by omega), v6]
        · show Y.1 6 ≤ 6; rw [yN 6 (by omega), v6]; omega
      · have w6 : Y.1 6 = S.1 6 + 1 := (yN 6 (by omega)).trans v6
        have w15 : Y.2.1 15 = upd (S.2.1 15) (S.1 6 + 1) (nI ((tn (S.2.1 15 (S.1 6))) + U.1 3)) := (yA 15 (by omega)).trans v15
        have wl : tn (upd (S.2.1 15) (S.1 6 + 1) (nI ((tn (S.2.1 15 (S.1 6))) + U.1 3)) (S.1 6 + 1)) = (tn (S.2.1 15 (S.1 6))) + U.1 3 := by rw [upd_s]; exact tnI (by omega)
        have wo : ∀ k, k ≤ S.1 6 → upd (S.2.1 15) (S.1 6 + 1) (nI ((tn (S.2.1 15 (S.1 6))) + U.1 3)) k = S.2.1 15 k := fun k hk => upd_n (by omega)
        show upd (Y.2.1 47) (S.1 6) (nI (S.1 0)) = Y.2.1 14 ∧ upd (Y.2.1 48) (S.1 6 + 1) (nI ((tn (S.2.1 15 (S.1 6))) + U.1 3)) = Y.2.1 15 ∧ StOK (Y.1 6) (Y.2.1 15) ∧ ∀ i, i < tn (Y.2.1 15 (Y.1 6)) → Y.2.1 49 i = Y.2.1 16 i ∧ Y.2.1 50 i = Y.2.1 17 i ∧ Y.2.1 51 i = Y.2.1 18 i ∧ Y.2.1 17 i ≤ nI 200
        rw [w6, w15, wl, yA 47 (by omega), vA 47 (by omega), yA 14 (by omega), v14, yA 48 (by omega), e48, yA 16 (by omega), yA 17 (by omega), yA 18 (by omega), hB.1]
        refine ⟨rfl, rfl, ⟨fun k hk => ?_, fun k hk => ?_⟩, fun i hi => ?_⟩
        · by_cases e : k = S.1 6 + 1
          · subst e; rw [wl, upd_s]; exact ⟨rfl, by omega⟩
          · rw [wo k (by omega)]; exact hSt.1 k (by omega)
        · by_cases e : k = S.1 6
          · subst e; rw [wl, wo _ (Nat.le_refl _)]; omega
          · rw [wo k (by omega), wo (k + 1) (by omega)]; exact hSt.2 k (by omega)
        · obtain ⟨i1, i2, i3⟩ := vi i
          rw [i1, i2, i3]
          by_cases c : i < (tn (S.2.1 15 (S.1 6)))
          · rw [if_neg (by omega), if_neg (by omega), if_neg (by omega)]
            have h1 := p3 i c
            have h2 := hB.2.2.2 i c
            rw [vA 49 (by omega), vA 50 (by omega), vA 51 (by omega)] at h1
            exact ⟨h1.1.trans h2.1, h1.2.1.trans h2.2.1, h1.2.2.trans h2.2.2.1, h2.2.2.2⟩
          · rw [if_pos (by omega), if_pos (by omega), if_pos (by omega)]
            have h1 := qa (i - (tn (S.2.1 15 (S.1 6)))) (by show i - (tn (S.2.1 15 (S.1 6))) < U.1 3; omega)
            rw [show (tn (S.2.1 15 (S.1 6))) + (i - (tn (S.2.1 15 (S.1 6)))) = i by omega] at h1
            exact h1
  · -- a fault
    obtain ⟨hb, p1, p2, p3⟩ := hpair U (uN 15 (by omega)) (uA 46 (by omega)) (tn (U.2.1 48 (U.1 16)))
    have e16 : U.1 16 = S.1 6 := (uN 16 (by omega)).trans n16
    have e48 : U.2.1 48 = S.2.1 15 := (uA 48 (by omega)).trans hB.2.1
    have en : U.2.1 48 (U.1 16) = S.2.1 15 (S.1 6) := by rw [e48, e16]
    by_cases hl : S.1 6 = 6
    · have hY := m_X8_law_fault6 6 G U ((uN 13 (by omega)).trans n13) hb (by rw [uN 15 (by omega)]; omega) (by omega) (by rw [en]; exact h6.1) (by rw [en]; omega) (by rw [uN 15 (by omega)]; omega) (by omega) (by rw [← p1]; exact hf)
      rw [← p1] at hY
      refine ⟨_, U, _, hx1 hf, hY, ?_⟩
      refine law_frame h (fun j hj => ?_) (fun j hj => ?_) ?_ (fun i hi => ?_)
      · rw [sN_N, if_neg (by omega), rdM_N (by omega)]; exact uN j (by omega)
      · rw [sN_A, rdM_A (by omega)]; exact uA j (by omega)
      · rw [sN_L]; exact (congrArg (fun z => z.1) (rdM_L _ _ _ _ _)).trans uL
      · have := p3 i (by rw [en]; exact hi)
        rw [sN_A]
        exact ⟨this.1.trans (congrFun (uA 49 (by omega)) i), this.2.1.trans (congrFun (uA 50 (by omega)) i), this.2.2.trans (congrFun (uA 51 (by omega)) i)⟩
    · have hY := m_X8_law_fault 6 G U ((uN 13 (by omega)).trans n13) hb (by rw [uN 15 (by omega)]; omega) (by omega) (by rw [en]; exact h6.1) (by rw [en]; omega) (by rw [uN 15 (by omega)]; omega) (by omega) (by rw [← p1]; exact hf)
      rw [← p1] at hY
      refine ⟨_, U, _, hx1 hf, hY, ?_⟩
      refine law_frame h (fun j hj => ?_) (fun j hj => ?_) ?_ (fun i hi => ?_)
      · rw [rdM_N (by omega)]; exact uN j (by omega)
      · rw [rdM_A (by omega)]; exact uA j (by omega)
      · exact (congrArg (fun z => z.1) (rdM_L _ _ _ _ _)).trans uL
      · have := p3 i (by rw [en]; exact hi)
        exact ⟨this.1.trans (congrFun (uA 49 (by omega)) i), this.2.1.trans (congrFun (uA 50 (by omega)) i), this.2.2.trans (congrFun (uA 51 (by omega)) i)⟩
