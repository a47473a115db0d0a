theorem u2 {f : Nat → Int32} {n c j e : Nat} {v : Int32} (h1 : c < 2) (h2 : e < 2) : upd f (2 * n + c) v (2 * j + e) = if j = n ∧ e = c then v else f (2 * j + e) := by
  unfold upd
  by_cases h : j = n ∧ e = c
  · rw [if_pos h, if_pos (by obtain ⟨rfl, rfl⟩ := h; rfl)]
  · rw [if_neg h, if_neg (fun z => h (by omega))]
theorem u2z {f : Nat → Int32} {n j e : Nat} {v : Int32} (h2 : e < 2) : upd f (2 * n) v (2 * j + e) = if j = n ∧ e = 0 then v else f (2 * j + e) := u2 (c := 0) (by decide) h2
theorem u2r {f : Nat → Int32} {n c j : Nat} {v : Int32} (h1 : c < 2) : upd f (2 * n + c) v (2 * j) = if j = n ∧ 0 = c then v else f (2 * j) := u2 (e := 0) h1 (by decide)
theorem u2zr {f : Nat → Int32} {n j : Nat} {v : Int32} : upd f (2 * n) v (2 * j) = if j = n then v else f (2 * j) := by
  have := u2 (f := f) (n := n) (c := 0) (j := j) (e := 0) (v := v) (by decide) (by decide)
  simpa using this
theorem u4 {f : Nat → Int32} {n c j e : Nat} {v : Int32} (h1 : c < 4) (h2 : e < 4) : upd f (4 * n + c) v (4 * j + e) = if j = n ∧ e = c then v else f (4 * j + e) := by
  unfold upd
  by_cases h : j = n ∧ e = c
  · rw [if_pos h, if_pos (by obtain ⟨rfl, rfl⟩ := h; rfl)]
  · rw [if_neg h, if_neg (fun z => h (by omega))]
theorem u4z {f : Nat → Int32} {n j e : Nat} {v : Int32} (h2 : e < 4) : upd f (4 * n) v (4 * j + e) = if j = n ∧ e = 0 then v else f (4 * j + e) := u4 (c := 0) (by decide) h2
theorem u4r {f : Nat → Int32} {n c j : Nat} {v : Int32} (h1 : c < 4) : upd f (4 * n + c) v (4 * j) = if j = n ∧ 0 = c then v else f (4 * j) := u4 (e := 0) h1 (by decide)
theorem u4zr {f : Nat → Int32} {n j : Nat} {v : Int32} : upd f (4 * n) v (4 * j) = if j = n then v else f (4 * j) := by
  have := u4 (f := f) (n := n) (c := 0) (j := j) (e := 0) (v := v) (by decide) (by decide)
  simpa using this
theorem u11 {f : Nat → Int32} {n c j e : Nat} {v : Int32} (h1 : c < 11) (h2 : e < 11) : upd f (11 * n + c) v (11 * j + e) = if j = n ∧ e = c then v else f (11 * j + e) := by
  unfold upd
  by_cases h : j = n ∧ e = c
  · rw [if_pos h, if_pos (by obtain ⟨rfl, rfl⟩ := h; rfl)]
  · rw [if_neg h, if_neg (fun z => h (by omega))]
theorem u11z {f : Nat → Int32} {n j e : Nat} {v : Int32} (h2 : e < 11) : upd f (11 * n) v (11 * j + e) = if j = n ∧ e = 0 then v else f (11 * j + e) := u11 (c := 0) (by decide) h2
theorem u11r {f : Nat → Int32} {n c j : Nat} {v : Int32} (h1 : c < 11) : upd f (11 * n + c) v (11 * j) = if j = n ∧ 0 = c then v else f (11 * j) := u11 (e := 0) h1 (by decide)
theorem u11zr {f : Nat → Int32} {n j : Nat} {v : Int32} : upd f (11 * n) v (11 * j) = if j = n then v else f (11 * j) := by
  have := u11 (f := f) (n := n) (c := 0) (j := j) (e := 0) (v := v) (by decide) (by decide)
  simpa using this
theorem laL_congr {fl dy fl' dy' : Nat → Int32} {f d : Int32} : ∀ n, (∀ k, k < n → fl k = fl' k ∧ dy k = dy' k) → laL fl dy f d n = laL fl' dy' f d n
  | 0, _ => rfl
  | n + 1, h => by
    obtain ⟨h1, h2⟩ := h n (by omega)
    unfold laL
    rw [h1, h2, laL_congr n (fun k hk => h k (by omega))]
theorem laL_none {fl dy : Nat → Int32} {f d : Int32} : ∀ n, (∀ k, k < n → ¬ fl k = f) → laL fl dy f d n = none
  | 0, _ => rfl
  | n + 1, h => by
    unfold laL
    rw [if_neg (fun z => h n (by omega) z.1), laL_none n (fun k hk => h k (by omega))]
theorem of52 {S : St} {n c j e : Nat} {v : Int32} (h1 : c < 11) (h2 : e < 11) : ofM (sA S 52 (11 * n + c) v) j e = if j = n ∧ e = c then v else ofM S j e := by
  unfold ofM; rw [sA_A, if_pos rfl]; exact u11 h1 h2
theorem of52z {S : St} {n j e : Nat} {v : Int32} (h2 : e < 11) : ofM (sA S 52 (11 * n) v) j e = if j = n ∧ e = 0 then v else ofM S j e := by
  unfold ofM; rw [sA_A, if_pos rfl]; exact u11z h2
theorem tnI {n : Nat} (h : n < 2 ^ 31) : tn (nI n) = n := nI_clamp h
theorem upd_n {f : Nat → Int32} {k j : Nat} {x : Int32} (h : ¬ j = k) : upd f k x j = f j := by simp [upd, h]
set_option maxHeartbeats 1000000 in
theorem st_due (G : GT) (S : St) (h : Rel S) (f : Int32) : ∃ (r : Int32) (S1 S2 : St), rX7_due G 10 [.ref (gad G 0), .int f] S (some (.int r)) S1 ∧ rX8_due G 10 [.ref (gad G 8), .int f] S1 (some (.int r)) S2 ∧ Rel S2 := by
  have h0 := id h
  obtain ⟨hN, hL, hD, hI, hB, hF, hV, hS, hW, hK, hQ, hT⟩ := h0
  obtain ⟨n13, n14, n0, n22, n15, n2, n16, n6, n18, n7, n19, n8, n20, n9, n21, n10, n23, n11, n24⟩ := id hN
  cases hb : hasB f (S.1 7) with
  | false => exact ⟨-1, S, S, m_X7_due_bad 8 G S f n7 hb, m_X8_due_bad 7 G S n13 f (by omega) (by rw [n18]; exact hb), h⟩
  | true =>
    obtain ⟨i, rfl, hi⟩ := hasB_of hb (by omega)
    have hw := h.sw hi (nI (S.1 0))
    refine ⟨_, S, S, m_X7_due_ok 5 G S i hi n7 _ n10 h.bk hw.1 hw.2, ?_, h⟩
    have := m_X8_due_ok 7 G S n13 i (by omega) (by omega) _ ((hS i hi).trans hw.1) hw.2 h.bm h.sp200
    rw [h.du, (hF i).2.1] at this
    exact this
theorem Rel.be {S : St} (h : Rel S) : ∀ n, n ≤ S.1 7 → beM S n = beX S n
  | 0, _ => rfl
  | n + 1, hn => by
    unfold beM beX
    rw [Rel.be h n (by omega), h.fo, h.du, (h.2.2.2.2.2.1 n).2.1, h.2.2.2.2.2.2.2.1 n (by omega), h.1.2.1]
set_option maxHeartbeats 1000000 in
theorem st_beyond (G : GT) (S : St) (h : Rel S)  : ∃ (r : Int32) (S1 S2 : St), rX7_beyond G 10 [.ref (gad G 0)] S (some (.int r)) S1 ∧ rX8_beyond G 10 [.ref (gad G 8)] S1 (some (.int r)) S2 ∧ Rel S2 := by
  have h0 := id h
  obtain ⟨hN, hL, hD, hI, hB, hF, hV, hS, hW, hK, hQ, hT⟩ := h0
  obtain ⟨n13, n14, n0, n22, n15, n2, n16, n6, n18, n7, n19, n8, n20, n9, n21, n10, n23, n11, n24⟩ := id hN
  refine ⟨_, S, S, m_X7_beyond 5 G S n7 n8 n10 h.bk h.swok, ?_, h⟩
  have := m_X8_beyond 7 G S n13 (by omega) (by omega) h.bm h.sp200 h.of9
  rw [n18, h.be _ (Nat.le_refl _)] at this
  exact this
set_option maxHeartbeats 1000000 in
theorem st_refuse (G : GT) (S : St) (h : Rel S) (f : Int32) : ∃ (r : Int32) (S1 S2 : St), rX7_refuse G 10 [.ref (gad G 0), .int f] S (some (.int r)) S1 ∧ rX8_refuse G 10 [.ref (gad G 8), .int f] S1 (some (.int r)) S2 ∧ Rel S2 := by
  have h0 := id h
  obtain ⟨hN, hL, hD, hI, hB, hF, hV, hS, hW, hK, hQ, hT⟩ := h0
  obtain ⟨n13, n14, n0, n22, n15, n2, n16, n6, n18, n7, n19, n8, n20, n9, n21, n10, n23, n11, n24⟩ := id hN
  cases hb : hasB f (S.1 7) with
  | false => exact ⟨-1, S, S, m_X7_refuse_bad 8 G S f n7 hb, m_X8_refuse_bad 7 G S n13 f (by omega) (by rw [n18]; exact hb), h⟩
  | true =>
    obtain ⟨i, rfl, hi⟩ := hasB_of hb (by omega)
    cases hf : foX S i with
    | true => exact ⟨-2, S, S, m_X7_refuse_state 7 G S i hi n7 n8 hf, m_X8_refuse_state 7 G S n13 i (by omega) (by omega) (by omega) (by rw [h.fo]; exact hf), h⟩
    | false =>
      have q10 := (hF i).2.2.2.2.2.2.2.2.2
      refine ⟨_, sA S 28 i (S.2.1 28 i + nI 1), sA (sA S 28 i (S.2.1 28 i + nI 1)) 52 (11 * i + 10) (S.2.1 28 i + nI 1), m_X7_refuse_ok 7 G S i hi n7 n8 hf, ?_, ⟨hN, hL, hD, hI, hB, ?_, hV, ?_, hW, hK, hQ, hT⟩⟩
      · have hfm : foM (sA S 28 i (S.2.1 28 i + nI 1)) i = false := (h.fo i).trans hf
        have := m_X8_refuse_ok 7 G (sA S 28 i (S.2.1 28 i + nI 1)) n13 i (by show i < S.1 18; omega) (by show S.1 18 ≤ 12; omega) (by show S.1 19 ≤ 30; omega) hfm
        rw [show ofM (sA S 28 i (S.2.1 28 i + nI 1)) i 10 = S.2.1 28 i from q10] at this
        exact this
      · intro j
        obtain ⟨q0, q1, q2, q3, q4, q5, q6, q7, q8, q10j⟩ := hF j
        refine ⟨?_, ?_, ?_, ?_, ?_, ?_, ?_, ?_, ?_, ?_⟩
        · rw [of52 (by decide) (by decide), if_neg (by omega)]; exact q0
        · rw [of52 (by decide) (by decide), if_neg (by omega)]; exact q1
        · rw [of52 (by decide) (by decide), if_neg (by omega)]; exact q2
        · rw [of52 (by decide) (by decide), if_neg (by omega)]; exact q3
        · rw [of52 (by decide) (by decide), if_neg (by omega)]; exact q4
        · rw [of52 (by decide) (by decide), if_neg (by omega)]; exact q5
        · rw [of52 (by decide) (by decide), if_neg (by omega)]; exact q6
        · rw [of52 (by decide) (by decide), if_neg (by omega)]; exact q7
        · rw [of52 (by decide) (by decide), if_neg (by omega)]; exact q8
        · rw [of52 (by decide) (by decide)]
          show _ = upd (S.2.1 28) i (S.2.1 28 i + nI 1) j
          by_cases e : j = i
          · subst e; rw [if_pos ⟨rfl, rfl⟩, upd_s]
          · rw [if_neg (fun z => e z.1), upd_n e]; exact q10j
      · intro j hj
        have q := hS j hj
        unfold ofM at q ⊢
        rw [sA_A, if_pos rfl, u11 (by decide) (by decide), if_neg (by omega)]
        exact q
set_option maxHeartbeats 1000000 in
theorem st_known (G : GT) (S : St) (h : Rel S) (f dy : Int32) : ∃ (r : Int32) (S1 S2 : St), rX7_known G 10 [.ref (gad G 0), .int f, .int dy] S (some (.int r)) S1 ∧ rX8_known G 10 [.ref (gad G 8), .int f, .int dy] S1 (some (.int r)) S2 ∧ Rel S2 := by
  have h0 := id h
  obtain ⟨hN, hL, hD, hI, hB, hF, hV, hS, hW, hK, hQ, hT⟩ := h0
  obtain ⟨n13, n14, n0, n22, n15, n2, n16, n6, n18, n7, n19, n8, n20, n9, n21, n10, n23, n11, n24⟩ := id hN
  cases hb : (hasB f (S.1 7) && inR dy (nI 0) (nI (S.1 0))) with
  | false => exact ⟨-1, S, S, m_X7_known_bad 8 G S f dy n7 hb, m_X8_known_bad 7 G S n13 f dy (by omega) (by rw [n18, n14]; exact hb), h⟩
  | true =>
    simp only [Bool.and_eq_true] at hb
    obtain ⟨i, rfl, hi⟩ := hasB_of hb.1 (by omega)
    exact ⟨_, S, S, m_X7_known_ok 8 G S i hi n7 dy hb.2 n8, by rw [← h.kn]; exact m_X8_known_ok 7 G S n13 i (by omega) (by omega) dy (by rw [n14]; exact hb.2) (by omega), h⟩
set_option maxHeartbeats 1000000 in
theorem st_rate (G : GT) (S : St) (h : Rel S) (n : Int32) : ∃ (r : Int32) (S1 S2 : St), rX7_rate G 10 [.ref (gad G 0), .int n] S (some (.int r)) S1 ∧ rX8_rate G 10 [.ref (gad G 8), .int n] S1 (some (.int r)) S2 ∧ Rel S2 := by
  have h0 := id h
  obtain ⟨hN, hL, hD, hI, hB, hF, hV, hS, hW, hK, hQ, hT⟩ := h0
  obtain ⟨n13, n14, n0, n22, n15, n2, n16, n6, n18, n7, n19, n8, n20, n9, n21, n10, n23, n11, n24⟩ := id hN
  cases hb : inR n (nI 1) (nI 9) with
  | false => exact ⟨-1, S, S, m_X7_rate_bad 8 G S n hb, m_X8_rate_bad 8 G S n13 n hb, h⟩
  | true =>
    obtain ⟨k, rfl, hk1, hk9⟩ := inR_of hb (by decide) (by decide)
    exact ⟨_, sN S 1 k, sN (sN S 1 k) 22 k, m_X7_rate_ok 8 G S k hk1 hk9, by rw [← n22]; exact m_X8_rate_ok 8 G (sN S 1 k) n13 k hk1 hk9, ⟨⟨n13, n14, n0, rfl, n15, n2, n16, n6, n18, n7, n19, n8, n20, n9, n21, n10, n23, n11, n24⟩, hL, hD, hI, hB, hF, hV, hS, hW, hK, hQ, hT⟩⟩
set_option maxHeartbeats 1000000 in
theorem st_ill (G : GT) (S : St) (h : Rel S) (hd : Int32) (b : Bool) : ∃ (r : Int32) (S1 S2 : St), rX7_ill G 10 [.ref (gad G 0), .int hd, .int (bI b)] S (some (.int r)) S1 ∧ rX8_ill G 10 [.ref (gad G 8), .int hd, .int (bI b)] S1 (some (.int r)) S2 ∧ Rel S2 := by
  have h0 := id h
  obtain ⟨hN, hL, hD, hI, hB, hF, hV, hS, hW, hK, hQ, hT⟩ := h0
  obtain ⟨n13, n14, n0, n22, n15, n2, n16, n6, n18, n7, n19, n8, n20, n9, n21, n10, n23, n11, n24⟩ := id hN
  cases hb : inR hd (nI 0) (nI 3) with
  | false => exact ⟨-1, S, S, m_X7_ill_bad 7 G S hd _ hb, m_X8_ill_bad 7 G S n13 hd _ hb, h⟩
  | true =>
    obtain ⟨k, rfl, -, hk3⟩ := inR_of hb (by decide) (by decide)
    obtain ⟨a, ha⟩ := b_cases (hI.2 k)
    have hm : S.2.1 56 k = bI a := by rw [hI.1]; exact ha
    refine ⟨bI a, sA S 9 k (bI b), sA (sA S 9 k (bI b)) 56 k (bI b), m_X7_ill_ok 7 G S k (by omega) a b ha, ?_, ⟨hN, hL, hD, ⟨?_, ?_⟩, hB, hF, hV, hS, hW, hK, hQ, hT⟩⟩
    · cases a with
      | true => exact m_X8_ill_true 7 G (sA S 9 k (bI b)) n13 k (by omega) b hm
      | false => exact m_X8_ill_false 7 G (sA S 9 k (bI b)) n13 k (by omega) b hm
    · show upd (S.2.1 56) k (bI b) = upd (S.2.1 9) k (bI b)
      rw [hI.1]
    · intro x
      show upd (S.2.1 9) k (bI b) x = _ ∨ upd (S.2.1 9) k (bI b) x = _
      by_cases e : x = k
      · subst e
        rw [upd_s]
        cases b
        · exact Or.inr rfl
        · exact Or.inl rfl
      · rw [upd_n e]
        exact hI.2 x
set_option maxHeartbeats 1000000 in
theorem st_fees (G : GT) (S : St) (h : Rel S) (hd w : Int32) : ∃ (r : Int32) (S1 S2 : St), rX7_fees G 10 [.ref (gad G 0), .int hd, .int w] S (some (.int r)) S1 ∧ rX8_fees G 10 [.ref (gad G 8), .int hd, .int w] S1 (some (.int r)) S2 ∧ Rel S2 := by
  have h0 := id h
  obtain ⟨hN, hL, hD, hI, hB, hF, hV, hS, hW, hK, hQ, hT⟩ := h0
  obtain ⟨n13, n14, n0, n22, n15, n2, n16, n6, n18, n7, n19, n8, n20, n9, n21, n10, n23, n11, n24⟩ := id hN
  cases hb : inR hd (nI 0) (nI 3) with
  | false => exact ⟨-1, S, S, m_X7_fees_bad 7 G S hd w hb, m_X8_fees_bad 7 G S n13 hd w (by rw [hb]; rfl), h⟩
  | true =>
    by_cases w0 : w = nI 0
    · subst w0
      refine ⟨_, S, S, m_X7_fees_0 7 G S hd hb n10, ?_, h⟩
      have := m_X8_fees_0 7 G S n13 hd hb (by omega)
      rw [n21, funext (fun k => (hW.1 k).2.2.1), funext (fun k => (hW.1 k).2.2.2)] at this
      exact this
    · by_cases w1 : w = nI 1
      · subst w1
        refine ⟨_, S, S, m_X7_fees_1 7 G S hd hb n10, ?_, h⟩
        have := m_X8_fees_1 7 G S n13 hd hb (by omega)
        rw [n21, funext (fun k => (hW.1 k).2.2.1)] at this
        exact this
      · refine ⟨-1, S, S, m_X7_fees_out 7 G S hd w hb w0 w1, m_X8_fees_bad 7 G S n13 hd w ?_, h⟩
        rw [hb, Bool.true_and]
        cases hw : inR w (nI 0) (nI 1) with
        | false => rfl
        | true =>
          obtain ⟨k, rfl, -, hk⟩ := inR_of hw (by decide) (by decide)
          rcases (show k = 0 ∨ k = 1 by omega) with rfl | rfl
          · exact absurd rfl w0
          · exact absurd rfl w1
set_option maxHeartbeats 1000000 in
theorem st_at (G : GT) (S : St) (h : Rel S) (i : Int32) : ∃ (r : Int32) (S1 S2 : St), rX7_at G 10 [.ref (gad G 0), .int i] S (some (.int r)) S1 ∧ rX8_at G 10 [.ref (gad G 8), .int i] S1 (some (.int r)) S2 ∧ Rel S2 := by
  have h0 := id h
  obtain ⟨hN, hL, hD, hI, hB, hF, hV, hS, hW, hK, hQ, hT⟩ := h0
  obtain ⟨n13, n14, n0, n22, n15, n2, n16, n6, n18, n7, n19, n8, n20, n9, n21, n10, n23, n11, n24⟩ := id hN
  cases hb : inR i (nI 0) (nI 6) with
  | false => exact ⟨-1, S, S, m_X7_at_bad 8 G S i hb, m_X8_at_bad 8 G S n13 i hb, h⟩
  | true =>
    obtain ⟨k, rfl, -, hk⟩ := inR_of hb (by decide) (by decide)
    by_cases e : k = 6
    · subst e
      exact ⟨_, S, S, m_X7_at_6 8 G S, by rw [← n24]; exact m_X8_at_6 8 G S n13, h⟩
    · refine ⟨_, S, S, m_X7_at_ok 8 G S k (by omega) n11, ?_, h⟩
      have := m_X8_at_ok 8 G S n13 k (by omega) (by omega)
      rw [n23] at this
      by_cases hk2 : k < S.1 11
      · rw [if_pos hk2] at this ⊢
        rw [← hT.1 k hk2]
        exact this
      · rw [if_neg hk2] at this ⊢
        exact this
set_option maxHeartbeats 1000000 in
theorem st_count (G : GT) (S : St) (h : Rel S) (w : Int32) : ∃ (r : Int32) (S1 S2 : St), rX7_count G 10 [.ref (gad G 0), .int w] S (some (.int r)) S1 ∧ rX8_count G 10 [.ref (gad G 8), .int w] S1 (some (.int r)) S2 ∧ Rel S2 := by
  have h0 := id h
  obtain ⟨hN, hL, hD, hI, hB, hF, hV, hS, hW, hK, hQ, hT⟩ := h0
  obtain ⟨n13, n14, n0, n22, n15, n2, n16, n6, n18, n7, n19, n8, n20, n9, n21, n10, n23, n11, n24⟩ := id hN
  cases hb : inR w (nI 0) (nI 6) with
  | false => exact ⟨-1, S, S, m_X7_count_out 9 G S w hb, m_X8_count_out 9 G S n13 w hb, h⟩
  | true =>
    obtain ⟨k, rfl, -, hk⟩ := inR_of hb (by decide) (by decide)
    rcases (show k = 0 ∨ k = 1 ∨ k = 2 ∨ k = 3 ∨ k = 4 ∨ k = 5 ∨ k = 6 by omega) with rfl | rfl | rfl | rfl | rfl | rfl | rfl
    · exact ⟨_, S, S, m_X7_count_0 9 G S, by rw [← n18]; exact m_X8_count_0 9 G S n13, h⟩
    · exact ⟨_, S, S, m_X7_count_1 9 G S, by rw [← n14]; exact m_X8_count_1 9 G S n13, h⟩
    · exact ⟨_, S, S, m_X7_count_2 9 G S, by rw [← n15]; exact m_X8_count_2 9 G S n13, h⟩
    · exact ⟨_, S, S, m_X7_count_3 9 G S, by rw [← n16]; exact m_X8_count_3 9 G S n13, h⟩
    · exact ⟨_, S, S, m_X7_count_4 9 G S, by rw [← n19]; exact m_X8_count_4 9 G S n13, h⟩
    · exact ⟨_, S, S, m_X7_count_5 9 G S, by rw [← n20]; exact m_X8_count_5 9 G S n13, h⟩
    · exact ⟨_, S, S, m_X7_count_6 9 G S, by rw [← n21]; exact m_X8_count_6 9 G S n13, h⟩
set_option maxHeartbeats 1000000 in
theorem st_trace (G : GT) (S : St) (h : Rel S)  : ∃ (r : Int64) (S1 S2 : St), rX7_trace G 10 [.ref (gad G 0)] S (some (.long r)) S1 ∧ rX8_trace G 10 [.ref (gad G 8)] S1 (some (.long r)) S2 ∧ Rel S2 := by
  have h0 := id h
  obtain ⟨hN, hL, hD, hI, hB, hF, hV, hS, hW, hK, hQ, hT⟩ := h0
  obtain ⟨n13, n14, n0, n22, n15, n2, n16, n6, n18, n7, n19, n8, n20, n9, n21, n10, n23, n11, n24⟩ := id hN
  exact ⟨_, S, S, m_X7_trace 9 G S, by rw [← hL]; exact m_X8_trace 9 G S n13, h⟩
set_option maxHeartbeats 1000000 in
theorem st_back (G : GT) (S : St) (h : Rel S) (f w : Int32) : ∃ (r : Int32) (S1 S2 : St), rX7_back G 10 [.ref (gad G 0), .int f, .int w] S (some (.int r)) S1 ∧ rX8_back G 10 [.ref (gad G 8), .int f, .int w] S1 (some (.int r)) S2 ∧ Rel S2 := by
  have h0 := id h
  obtain ⟨hN, hL, hD, hI, hB, hF, hV, hS, hW, hK, hQ, hT⟩ := h0
  obtain ⟨n13, n14, n0, n22, n15, n2, n16, n6, n18, n7, n19, n8, n20, n9, n21, n10, n23, n11, n24⟩ := id hN
  cases hb : hasB f (S.1 9) with
  | false => exact ⟨-1, S, S, m_X7_back_bad 8 G S f w n9 hb, m_X8_back_bad 8 G S n13 f w (by omega) (by rw [n20, hb]; rfl), h⟩
  | true =>
    obtain ⟨j, rfl, hj⟩ := hasB_of hb (by omega)
    cases hw : inR w (nI 0) (nI 5) with
    | false => exact ⟨-1, S, S, m_X7_back_out 8 G S j hj n9 w hw, m_X8_back_bad 8 G S n13 (nI j) w (by omega) (by rw [hw, Bool.and_false]), h⟩
    | true =>
      obtain ⟨k, rfl, -, hk⟩ := inR_of hw (by decide) (by decide)
      obtain ⟨f1, f2⟩ := hQ.2 j hj
      obtain ⟨e1, e2⟩ := hQ.1 j
      have hf : S.2.1 54 (2 * j) = nI (tn (S.2.1 34 j)) := e1.trans f1
      have hsw := h.sw f2 (S.2.1 35 j)
      have hsl := h.swl (tn (S.2.1 34 j)) (S.2.1 35 j)
      have hsh := h.swh (tn (S.2.1 34 j)) (S.2.1 35 j)
      rcases (show k = 0 ∨ k = 1 ∨ k = 2 ∨ k = 3 ∨ k = 4 ∨ k = 5 by omega) with rfl | rfl | rfl | rfl | rfl | rfl
      · exact ⟨_, S, S, m_X7_back_0 8 G S j hj n9, by rw [← e1]; exact m_X8_back_0 8 G S n13 j _ (by omega) (by omega) (by omega) hf (by omega), h⟩
      · exact ⟨_, S, S, m_X7_back_1 8 G S j hj n9, by rw [← e2]; exact m_X8_back_1 8 G S n13 j _ (by omega) (by omega) (by omega) hf (by omega), h⟩
      · refine ⟨_, S, S, m_X7_back_2 7 G S j hj n9 _ (by omega) f1 n10, ?_, h⟩
        have := m_X8_back_2 8 G S n13 j _ (by omega) (by omega) (by omega) hf (by omega)
        rw [hf, e2, hsl] at this
        exact this
      · refine ⟨_, S, S, m_X7_back_3 7 G S j hj n9 _ (by omega) f1 n10, ?_, h⟩
        have := m_X8_back_3 8 G S n13 j _ (by omega) (by omega) (by omega) hf (by omega)
        rw [hf, e2, hsh] at this
        exact this
      · refine ⟨_, S, S, m_X7_back_4 5 G S j hj n9 _ (by omega) f1 _ n10 h.bk hsw.1 hsw.2, ?_, h⟩
        have := m_X8_back_4 7 G S n13 j _ (by omega) (by omega) (by omega) hf (by omega) _ (by rw [hf, e2, hsl]; exact hsw.1) hsw.2 h.bm h.sp200
        rw [e2, h.du, (hF _).2.1] at this
        exact this
      · refine ⟨_, S, S, m_X7_back_5 8 G S j hj n9 n8, ?_, h⟩
        have := m_X8_back_5 8 G S n13 j _ (by omega) (by omega) (by omega) hf (by omega) (by omega)
        rw [e1, e2, h.kn] at this
        exact this
