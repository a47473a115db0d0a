theorem waL_le {w : Nat → Int32} {i : Nat} : ∀ n : Nat, waL w i n ≤ n
  | 0 => Nat.le_refl _
  | n + 1 => by
    unfold waL
    have := waL_le (w := w) (i := i) n
    split <;> omega
def wfX (S : St) (hand day : Int32) : Nat → St
  | 0 => S
  | n + 1 => sA (wfX S hand day n) 29 n (wtX S n (tn (swX S n (nI (S.1 0)))) hand day)
theorem wfX_N {S : St} {hand day : Int32} : ∀ {n : Nat}, (wfX S hand day n).1 = S.1
  | 0 => rfl
  | n + 1 => wfX_N (n := n)
theorem wfX_A {S : St} {hand day : Int32} {j : Nat} (h : j ≠ 29) : ∀ {n : Nat}, (wfX S hand day n).2.1 j = S.2.1 j
  | 0 => rfl
  | n + 1 => by
    show (sA (wfX S hand day n) 29 n _).2.1 j = S.2.1 j
    rw [sA_A, if_neg h]
    exact wfX_A h
theorem swX_congr {S S1 : St} {i : Nat} {day : Int32} (h1 : S1.1 = S.1) (h2 : ∀ j, j ≠ 29 → S1.2.1 j = S.2.1 j) : swX S1 i day = swX S i day := by
  unfold swX
  rw [h1, h2 36 (by decide), h2 37 (by decide), h2 27 (by decide)]
theorem wtX_congr {S S1 : St} {i w : Nat} {hand day : Int32} (h1 : S1.1 = S.1) (h2 : ∀ j, j ≠ 29 → S1.2.1 j = S.2.1 j) : wtX S1 i w hand day = wtX S i w hand day := by
  unfold wtX doX foX knX duX
  rw [h1, h2 24 (by decide), h2 25 (by decide), h2 26 (by decide), h2 9 (by decide), h2 28 (by decide), h2 30 (by decide), h2 31 (by decide), h2 32 (by decide), h2 33 (by decide), h2 14 (by decide), h2 15 (by decide), h2 16 (by decide), h2 17 (by decide), h2 18 (by decide), h2 20 (by decide)]
def asX (S : St) (k : Nat) : Nat → St
  | 0 => S
  | n + 1 => if ¬ S.2.1 29 n = -9 ∧ waL (S.2.1 29) n (S.1 7) < k then sN (sA (sA (sA (asX S k n) 40 ((asX S k n).1 11) (nI n)) 41 ((asX S k n).1 11) (S.2.1 24 n)) 42 ((asX S k n).1 11) (S.2.1 25 n)) 11 ((asX S k n).1 11 + 1) else asX S k n
theorem asX_t {S : St} {k n : Nat} (h1 : ¬ S.2.1 29 n = -9) (h2 : waL (S.2.1 29) n (S.1 7) < k) : asX S k (n + 1) = sN (sA (sA (sA (asX S k n) 40 ((asX S k n).1 11) (nI n)) 41 ((asX S k n).1 11) (S.2.1 24 n)) 42 ((asX S k n).1 11) (S.2.1 25 n)) 11 ((asX S k n).1 11 + 1) := by rw [asX, if_pos ⟨h1, h2⟩]
theorem asX_f {S : St} {k n : Nat} (h : ¬ (¬ S.2.1 29 n = -9 ∧ waL (S.2.1 29) n (S.1 7) < k)) : asX S k (n + 1) = asX S k n := by rw [asX, if_neg h]
theorem asX_N {S : St} {k j : Nat} (h : j ≠ 11) : ∀ {n : Nat}, (asX S k n).1 j = S.1 j
  | 0 => rfl
  | n + 1 => by
    rw [asX]
    split
    · rw [sN_N, if_neg h]; exact asX_N h
    · exact asX_N h
theorem asX_A {S : St} {k j : Nat} (h : j < 40 ∨ 42 < j) : ∀ {n : Nat}, (asX S k n).2.1 j = S.2.1 j
  | 0 => rfl
  | n + 1 => by
    rw [asX]
    split
    · rw [sN_A, sA_A, if_neg (by omega), sA_A, if_neg (by omega), sA_A, if_neg (by omega)]; exact asX_A h
    · exact asX_A h
theorem asX_7 {S : St} {k n : Nat} : (asX S k n).1 7 = S.1 7 := asX_N (by decide)
theorem asX_29 {S : St} {k n : Nat} : (asX S k n).2.1 29 = S.2.1 29 := asX_A (by omega)
theorem asX_24 {S : St} {k n : Nat} : (asX S k n).2.1 24 = S.2.1 24 := asX_A (by omega)
theorem asX_25 {S : St} {k n : Nat} : (asX S k n).2.1 25 = S.2.1 25 := asX_A (by omega)
set_option maxHeartbeats 4000000 in
set_option maxRecDepth 100000 in
theorem m_X7_round_bad (d : Nat) (G : GT) (S : St) (hd n day : Int32) (h : (inR hd (nI 0) (nI 3) && inR n (nI 1) (nI 6) && inR day (nI 0) (nI 800)) = false) : rX7_round G (d + 10) [.ref (gad G 0), .int hd, .int n, .int day] S (some (.int (-1))) S := by
  refine runs_I (d := (d + 9)) (by decide) (Nat.le_of_ble_eq_true rfl) (fun X (hX : XC X G (d + 9) RX7 cX7_round 5) hR => ?_)
  show AW X G 0 [.ref (gad G 0), .int hd, .int n, .int day, .null] [] S
  refine aw_iload_1 hX dX7_round_0 ?_
  refine cs_X7_isHand hX ml_X7_115 dX7_round_1 (m_X7_isHand _ G S _) (Nat.le_of_ble_eq_true rfl) ?_
  first | with_reducible refine aw_ifeqB hX (tgt := 28) dX7_round_4 (by decide) (fun c_4 => ?_) (fun c_4 => ?_) | refine aw_ifeq hX (tgt := 28) dX7_round_4 (by decide) (fun c_4 => ?_) (fun c_4 => ?_)
  · skip
    refine aw_iconst hX (v := (-1)) (by decide) dX7_round_28 ?_
    refine aw_finI (hR _ _ dX7_round_29) ?_ ?_
    · rfl
    · rfl
  · skip
    refine aw_iload_2 hX dX7_round_7 ?_
    refine aw_iconst hX (v := nI 1) (by decide) dX7_round_8 ?_
    refine aw_bipush hX (v := nI 6) (by decide) dX7_round_9 ?_
    refine cs_X7_within hX ml_X7_73 dX7_round_11 (m_X7_within _ G S _ _ _) (Nat.le_of_ble_eq_true rfl) ?_
    first | with_reducible refine aw_ifeqB hX (tgt := 28) dX7_round_14 (by decide) (fun c_14 => ?_) (fun c_14 => ?_) | refine aw_ifeq hX (tgt := 28) dX7_round_14 (by decide) (fun c_14 => ?_) (fun c_14 => ?_)
    · skip
      refine aw_iconst hX (v := (-1)) (by decide) dX7_round_28 ?_
      refine aw_finI (hR _ _ dX7_round_29) ?_ ?_
      · rfl
      · rfl
    · skip
      refine aw_iload_3 hX dX7_round_17 ?_
      refine aw_iconst hX (v := nI 0) (by decide) dX7_round_18 ?_
      refine aw_sipush hX (v := nI 800) (by decide) dX7_round_19 ?_
      refine cs_X7_within hX ml_X7_73 dX7_round_22 (m_X7_within _ G S _ _ _) (Nat.le_of_ble_eq_true rfl) ?_
      first | with_reducible refine aw_ifneB hX (tgt := 30) dX7_round_25 (by decide) (fun c_25 => ?_) (fun c_25 => ?_) | refine aw_ifne hX (tgt := 30) dX7_round_25 (by decide) (fun c_25 => ?_) (fun c_25 => ?_)
      · simp [c_4, c_14, c_25] at h
      · skip
        refine aw_iconst hX (v := (-1)) (by decide) dX7_round_28 ?_
        refine aw_finI (hR _ _ dX7_round_29) ?_ ?_
        · rfl
        · rfl
set_option maxHeartbeats 4000000 in
set_option maxRecDepth 100000 in
theorem m_X7_round_ok (d : Nat) (G : GT) (S : St) (hd day : Int32) (k : Nat) (hk1 : 1 ≤ k) (hk6 : k ≤ 6) (hhd : inR hd (nI 0) (nI 3) = true) (hday : inR day (nI 0) (nI 800) = true) (h7 : S.1 7 ≤ 12) (h8 : S.1 8 ≤ 30) (h10 : S.1 10 ≤ 100) (hh : HdOK (S.1 7) (S.2.1 26)) (hb : BkOK S) (hw : SwOK S) (hlt : ∀ i, i < S.1 7 → ¬ ((sN (wfX S hd day (S.1 7)) 11 0)).2.1 29 i = -9 → waL (((sN (wfX S hd day (S.1 7)) 11 0)).2.1 29) i (((sN (wfX S hd day (S.1 7)) 11 0)).1 7) < k → (asX (sN (wfX S hd day (S.1 7)) 11 0) k i).1 11 < 6) (htr : TrOK (sN (asX (sN (wfX S hd day (S.1 7)) 11 0) k (S.1 7)) 12 1000000)) : rX7_round G (d + 10) [.ref (gad G 0), .int hd, .int (nI k), .int day] S (some (.int (nI ((asX (sN (wfX S hd day (S.1 7)) 11 0) k (S.1 7)).1 11)))) (exX 7 (sN (asX (sN (wfX S hd day (S.1 7)) 11 0) k (S.1 7)) 12 1000000) 0 0 0 0) := by
  refine runs_I (d := (d + 9)) (by decide) (Nat.le_of_ble_eq_true rfl) (fun X (hX : XC X G (d + 9) RX7 cX7_round 5) hR => ?_)
  show AW X G 0 [.ref (gad G 0), .int hd, .int (nI k), .int day, .null] [] S
  have l1 : ∀ n i : Nat, i + n = S.1 7 → AW X G 69 [.ref (gad G 0), .int hd, .int (nI k), .int day, .int (nI (S.1 7))] [] (wfX S hd day (S.1 7)) → AW X G 33 [.ref (gad G 0), .int hd, .int (nI k), .int day, .int (nI i)] [] (wfX S hd day i) := by
    intro n
    induction n with
    | zero =>
      intro i hi hk
      obtain rfl : i = S.1 7 := by omega
      refine aw_iload_4 hX dX7_round_33 ?_
      refine aw_aload_0 hX dX7_round_35 ?_
      refine ag_X7_flues hX fl_X7_26 dX7_round_36 ?_
      try simp +decide only [sN_N, sN_A, sN_L, sN_R, sA_N, sA_A, sA_L, sA_R, sL_N, sL_A, sL_L, sL_R, sR_N, sR_A, sR_L, sR_R, reduceIte, wfX_N]
      refine ag_X2_size hX fl_X7_174 dX7_round_39 ?_
      try simp +decide only [sN_N, sN_A, sN_L, sN_R, sA_N, sA_A, sA_L, sA_R, sL_N, sL_A, sL_L, sL_R, sR_N, sR_A, sR_L, sR_R, reduceIte, wfX_N]
      first | with_reducible refine aw_icmpgeN hX (tgt := 69) dX7_round_42 (by decide) (by omega) (by omega) (fun c_42 => ?_) (fun c_42 => ?_) | refine aw_jge hX (tgt := 69) dX7_round_42 (by decide) (fun c_42 => ?_) (fun c_42 => ?_)
      · skip
        exact hk
      · exact absurd c_42 (by omega)
    | succ n ih =>
      intro i hi hk
      refine aw_iload_4 hX dX7_round_33 ?_
      refine aw_aload_0 hX dX7_round_35 ?_
      refine ag_X7_flues hX fl_X7_26 dX7_round_36 ?_
      try simp +decide only [sN_N, sN_A, sN_L, sN_R, sA_N, sA_A, sA_L, sA_R, sL_N, sL_A, sL_L, sL_R, sR_N, sR_A, sR_L, sR_R, reduceIte, wfX_N]
      refine ag_X2_size hX fl_X7_174 dX7_round_39 ?_
      try simp +decide only [sN_N, sN_A, sN_L, sN_R, sA_N, sA_A, sA_L, sA_R, sL_N, sL_A, sL_L, sL_R, sR_N, sR_A, sR_L, sR_R, reduceIte, wfX_N]
      first | with_reducible refine aw_icmpgeN hX (tgt := 69) dX7_round_42 (by decide) (by omega) (by omega) (fun c_42 => ?_) (fun c_42 => ?_) | refine aw_jge hX (tgt := 69) dX7_round_42 (by decide) (fun c_42 => ?_) (fun c_42 => ?_)
      · exact absurd c_42 (by omega)
      · skip
        refine aw_aload_0 hX dX7_round_45 ?_
        refine ag_X7_flues hX fl_X7_26 dX7_round_46 ?_
        try simp +decide only [sN_N, sN_A, sN_L, sN_R, sA_N, sA_A, sA_L, sA_R, sL_N, sL_A, sL_L, sL_R, sR_N, sR_A, sR_L, sR_R, reduceIte, wfX_N]
        refine ag_X2_waiting hX fl_X7_210 dX7_round_49 ?_
        try simp +decide only [sN_N, sN_A, sN_L, sN_R, sA_N, sA_A, sA_L, sA_R, sL_N, sL_A, sL_L, sL_R, sR_N, sR_A, sR_L, sR_R, reduceIte, wfX_N]
        refine aw_iload_4 hX dX7_round_52 ?_
        refine aw_aload_0 hX dX7_round_54 ?_
        refine aw_iload_4 hX dX7_round_55 ?_
        refine aw_iload_1 hX dX7_round_57 ?_
        refine aw_iload_3 hX dX7_round_58 ?_
        refine cv_X7_waitingSince hX ml_X7_213 dX7_round_59 (m_X7_waitingSince _ G (wfX S hd day i) i (tn (swX S i (nI (S.1 0)))) hd day (by rw [wfX_N]; omega) (by rw [wfX_N]; exact h7) (by rw [wfX_N]; exact h8) (by rw [wfX_N]; exact h10) (by rw [wfX_N, wfX_A (by decide)]; exact hh) (by unfold BkOK; rw [wfX_N, wfX_A (by decide)]; exact hb) (by rw [swX_congr wfX_N (fun j hj => wfX_A hj), wfX_N]; exact (hw i (by omega)).1) (hw i (by omega)).2) (Nat.le_of_ble_eq_true rfl) ?_
        refine aw_ti (wtX_congr wfX_N (fun j hj => wfX_A hj)) ?_
        refine aw_iast hX dX7_round_62 rfl (fun _ => rfl) (by decide) (by omega) ?_
        first | with_reducible refine aw_iinc_4N hX rfl (by decide) dX7_round_63 ?_ | refine aw_iinc_4 hX rfl (by decide) dX7_round_63 ?_
        refine aw_goto hX (tgt := 33) dX7_round_66 (by decide) ?_
        exact ih (i + 1) (by omega) hk
  have l2 : ∀ n i : Nat, i + n = S.1 7 → AW X G 154 [.ref (gad G 0), .int hd, .int (nI k), .int day, .int (nI (S.1 7))] [] (asX (sN (wfX S hd day (S.1 7)) 11 0) k (S.1 7)) → AW X G 79 [.ref (gad G 0), .int hd, .int (nI k), .int day, .int (nI i)] [] (asX (sN (wfX S hd day (S.1 7)) 11 0) k i) := by
    intro n
    induction n with
    | zero =>
      intro i hi hk
      obtain rfl : i = S.1 7 := by omega
      refine aw_iload_4 hX dX7_round_79 ?_
      refine aw_aload_0 hX dX7_round_81 ?_
      refine ag_X7_flues hX fl_X7_26 dX7_round_82 ?_
      try simp +decide only [sN_N, sN_A, sN_L, sN_R, sA_N, sA_A, sA_L, sA_R, sL_N, sL_A, sL_L, sL_R, sR_N, sR_A, sR_L, sR_R, reduceIte, asX_7, wfX_N]
      refine ag_X2_size hX fl_X7_174 dX7_round_85 ?_
      try simp +decide only [sN_N, sN_A, sN_L, sN_R, sA_N, sA_A, sA_L, sA_R, sL_N, sL_A, sL_L, sL_R, sR_N, sR_A, sR_L, sR_R, reduceIte, asX_7, wfX_N]
      first | with_reducible refine aw_icmpgeN hX (tgt := 154) dX7_round_88 (by decide) (by omega) (by omega) (fun c_88 => ?_) (fun c_88 => ?_) | refine aw_jge hX (tgt := 154) dX7_round_88 (by decide) (fun c_88 => ?_) (fun c_88 => ?_)
      · skip
        exact hk
      · exact absurd c_88 (by omega)
    | succ n ih =>
      intro i hi hk
      refine aw_iload_4 hX dX7_round_79 ?_
      refine aw_aload_0 hX dX7_round_81 ?_
      refine ag_X7_flues hX fl_X7_26 dX7_round_82 ?_
      try simp +decide only [sN_N, sN_A, sN_L, sN_R, sA_N, sA_A, sA_L, sA_R, sL_N, sL_A, sL_L, sL_R, sR_N, sR_A, sR_L, sR_R, reduceIte, asX_7, asX_29, asX_24, asX_25, wfX_N]
      refine ag_X2_size hX fl_X7_174 dX7_round_85 ?_
      try simp +decide only [sN_N, sN_A, sN_L, sN_R, sA_N, sA_A, sA_L, sA_R, sL_N, sL_A, sL_L, sL_R, sR_N, sR_A, sR_L, sR_R, reduceIte, asX_7, asX_29, asX_24, asX_25, wfX_N]
      first | with_reducible refine aw_icmpgeN hX (tgt := 154) dX7_round_88 (by decide) (by omega) (by omega) (fun c_88 => ?_) (fun c_88 => ?_) | refine aw_jge hX (tgt := 154) dX7_round_88 (by decide) (fun c_88 => ?_) (fun c_88 => ?_)
      · exact absurd c_88 (by omega)
      · skip
        refine aw_aload_0 hX dX7_round_91 ?_
        refine ag_X7_flues hX fl_X7_26 dX7_round_92 ?_
        try simp +decide only [sN_N, sN_A, sN_L, sN_R, sA_N, sA_A, sA_L, sA_R, sL_N, sL_A, sL_L, sL_R, sR_N, sR_A, sR_L, sR_R, reduceIte, asX_7, asX_29, asX_24, asX_25, wfX_N]
        refine ag_X2_waiting hX fl_X7_210 dX7_round_95 ?_
        try simp +decide only [sN_N, sN_A, sN_L, sN_R, sA_N, sA_A, sA_L, sA_R, sL_N, sL_A, sL_L, sL_R, sR_N, sR_A, sR_L, sR_R, reduceIte, asX_7, asX_29, asX_24, asX_25, wfX_N]
        refine aw_iload_4 hX dX7_round_98 ?_
        refine aw_iald hX dX7_round_100 rfl (by decide) (by omega) ?_
        try simp +decide only [sN_N, sN_A, sN_L, sN_R, sA_N, sA_A, sA_L, sA_R, sL_N, sL_A, sL_L, sL_R, sR_N, sR_A, sR_L, sR_R, reduceIte, asX_7, asX_29, asX_24, asX_25, wfX_N]
        refine aw_bipush hX (v := (-9)) (by decide) dX7_round_101 ?_
        first | with_reducible refine aw_icmpeqN hX (tgt := 148) dX7_round_103 (by decide) (by omega) (by omega) (fun c_103 => ?_) (fun c_103 => ?_) | refine aw_icmpeq hX (tgt := 148) dX7_round_103 (by decide) (fun c_103 => ?_) (fun c_103 => ?_)
        · skip
          first | with_reducible refine aw_iinc_4N hX rfl (by decide) dX7_round_148 ?_ | refine aw_iinc_4 hX rfl (by decide) dX7_round_148 ?_
          refine aw_goto hX (tgt := 79) dX7_round_151 (by decide) ?_
          have hih := ih (i + 1) (by omega) hk
          first | (rw [asX_t (S := (sN (wfX S hd day (S.1 7)) 11 0)) c_103 c_116] at hih; exact hih) | (rw [asX_f (S := (sN (wfX S hd day (S.1 7)) 11 0)) (fun z => z.1 c_103)] at hih; exact hih) | (rw [asX_f (S := (sN (wfX S hd day (S.1 7)) 11 0)) (fun z => absurd z.2 (Nat.not_lt.mpr c_116))] at hih; exact hih)
        · skip
          refine aw_aload_0 hX dX7_round_106 ?_
          refine ag_X7_flues hX fl_X7_26 dX7_round_107 ?_
          try simp +decide only [sN_N, sN_A, sN_L, sN_R, sA_N, sA_A, sA_L, sA_R, sL_N, sL_A, sL_L, sL_R, sR_N, sR_A, sR_L, sR_R, reduceIte, asX_7, asX_29, asX_24, asX_25, wfX_N]
          refine aw_iload_4 hX dX7_round_110 ?_
          refine cv_X2_waitingAheadOf hX ml_X7_220 dX7_round_112 (m_X2_waitingAheadOf _ G (asX (sN (wfX S hd day (S.1 7)) 11 0) k i) i (by omega) (by rw [asX_7]; simp +decide only [sN_N, reduceIte, wfX_N]; exact h7)) (Nat.le_of_ble_eq_true rfl) ?_
          simp only [asX_29, asX_7]
          have hwl := waL_le (w := ((sN (wfX S hd day (S.1 7)) 11 0)).2.1 29) (i := i) (((sN (wfX S hd day (S.1 7)) 11 0)).1 7)
          have hw7 : ((sN (wfX S hd day (S.1 7)) 11 0)).1 7 = S.1 7 := by simp +decide only [sN_N, reduceIte, wfX_N]
          refine aw_iload_2 hX dX7_round_115 ?_
          first | with_reducible refine aw_icmpgeN hX (tgt := 148) dX7_round_116 (by decide) (by omega) (by omega) (fun c_116 => ?_) (fun c_116 => ?_) | refine aw_jge hX (tgt := 148) dX7_round_116 (by decide) (fun c_116 => ?_) (fun c_116 => ?_)
          · skip
            first | with_reducible refine aw_iinc_4N hX rfl (by decide) dX7_round_148 ?_ | refine aw_iinc_4 hX rfl (by decide) dX7_round_148 ?_
            refine aw_goto hX (tgt := 79) dX7_round_151 (by decide) ?_
            have hih := ih (i + 1) (by omega) hk
            first | (rw [asX_t (S := (sN (wfX S hd day (S.1 7)) 11 0)) c_103 c_116] at hih; exact hih) | (rw [asX_f (S := (sN (wfX S hd day (S.1 7)) 11 0)) (fun z => z.1 c_103)] at hih; exact hih) | (rw [asX_f (S := (sN (wfX S hd day (S.1 7)) 11 0)) (fun z => absurd z.2 (Nat.not_lt.mpr c_116))] at hih; exact hih)
          · skip
            refine aw_aload_0 hX dX7_round_119 ?_
            refine ag_X7_tour hX fl_X7_54 dX7_round_120 ?_
            try simp +decide only [sN_N, sN_A, sN_L, sN_R, sA_N, sA_A, sA_L, sA_R, sL_N, sL_A, sL_L, sL_R, sR_N, sR_A, sR_L, sR_R, reduceIte, asX_7, asX_29, asX_24, asX_25, wfX_N]
            refine aw_iload_4 hX dX7_round_123 ?_
            refine aw_aload_0 hX dX7_round_125 ?_
            refine ag_X7_flues hX fl_X7_26 dX7_round_126 ?_
            try simp +decide only [sN_N, sN_A, sN_L, sN_R, sA_N, sA_A, sA_L, sA_R, sL_N, sL_A, sL_L, sL_R, sR_N, sR_A, sR_L, sR_R, reduceIte, asX_7, asX_29, asX_24, asX_25, wfX_N]
            refine ag_X2_x hX fl_X7_223 dX7_round_129 ?_
            try simp +decide only [sN_N, sN_A, sN_L, sN_R, sA_N, sA_A, sA_L, sA_R, sL_N, sL_A, sL_L, sL_R, sR_N, sR_A, sR_L, sR_R, reduceIte, asX_7, asX_29, asX_24, asX_25, wfX_N]
            refine aw_iload_4 hX dX7_round_132 ?_
            refine aw_iald hX dX7_round_134 rfl (by decide) (by omega) ?_
            try simp +decide only [sN_N, sN_A, sN_L, sN_R, sA_N, sA_A, sA_L, sA_R, sL_N, sL_A, sL_L, sL_R, sR_N, sR_A, sR_L, sR_R, reduceIte, asX_7, asX_29, asX_24, asX_25, wfX_N]
            refine aw_aload_0 hX dX7_round_135 ?_
            refine ag_X7_flues hX fl_X7_26 dX7_round_136 ?_
            try simp +decide only [sN_N, sN_A, sN_L, sN_R, sA_N, sA_A, sA_L, sA_R, sL_N, sL_A, sL_L, sL_R, sR_N, sR_A, sR_L, sR_R, reduceIte, asX_7, asX_29, asX_24, asX_25, wfX_N]
            refine ag_X2_y hX fl_X7_226 dX7_round_139 ?_
            try simp +decide only [sN_N, sN_A, sN_L, sN_R, sA_N, sA_A, sA_L, sA_R, sL_N, sL_A, sL_L, sL_R, sR_N, sR_A, sR_L, sR_R, reduceIte, asX_7, asX_29, asX_24, asX_25, wfX_N]
            refine aw_iload_4 hX dX7_round_142 ?_
            refine aw_iald hX dX7_round_144 rfl (by decide) (by omega) ?_
            try simp +decide only [sN_N, sN_A, sN_L, sN_R, sA_N, sA_A, sA_L, sA_R, sL_N, sL_A, sL_L, sL_R, sR_N, sR_A, sR_L, sR_R, reduceIte, asX_7, asX_29, asX_24, asX_25, wfX_N]
            refine cv_X6_addStop hX ml_X7_229 dX7_round_145 (m_X6_addStop _ G (asX (sN (wfX S hd day (S.1 7)) 11 0) k i) _ _ _ (hlt i (by omega) c_103 c_116)) (Nat.le_of_ble_eq_true rfl) ?_
            first | with_reducible refine aw_iinc_4N hX rfl (by decide) dX7_round_148 ?_ | refine aw_iinc_4 hX rfl (by decide) dX7_round_148 ?_
            refine aw_goto hX (tgt := 79) dX7_round_151 (by decide) ?_
            have hih := ih (i + 1) (by omega) hk
            first | (rw [asX_t (S := (sN (wfX S hd day (S.1 7)) 11 0)) c_103 c_116] at hih; exact hih) | (rw [asX_f (S := (sN (wfX S hd day (S.1 7)) 11 0)) (fun z => z.1 c_103)] at hih; exact hih) | (rw [asX_f (S := (sN (wfX S hd day (S.1 7)) 11 0)) (fun z => absurd z.2 (Nat.not_lt.mpr c_116))] at hih; exact hih)
  refine aw_iload_1 hX dX7_round_0 ?_
  refine cs_X7_isHand hX ml_X7_115 dX7_round_1 (m_X7_isHand_b _ G S _ true hhd) (Nat.le_of_ble_eq_true rfl) ?_
  first | with_reducible refine aw_ifeqB hX (tgt := 28) dX7_round_4 (by decide) (fun c_4 => ?_) (fun c_4 => ?_) | refine aw_ifeq hX (tgt := 28) dX7_round_4 (by decide) (fun c_4 => ?_) (fun c_4 => ?_)
  · cases c_4
  · skip
    refine aw_iload_2 hX dX7_round_7 ?_
    refine aw_iconst hX (v := nI 1) (by decide) dX7_round_8 ?_
    refine aw_bipush hX (v := nI 6) (by decide) dX7_round_9 ?_
    refine cs_X7_within hX ml_X7_73 dX7_round_11 (m_X7_within_b _ G S _ _ _ true (by rw [inR_nI (by omega) (by omega) (by omega)]; simp; omega)) (Nat.le_of_ble_eq_true rfl) ?_
    first | with_reducible refine aw_ifeqB hX (tgt := 28) dX7_round_14 (by decide) (fun c_14 => ?_) (fun c_14 => ?_) | refine aw_ifeq hX (tgt := 28) dX7_round_14 (by decide) (fun c_14 => ?_) (fun c_14 => ?_)
    · cases c_14
    · skip
      refine aw_iload_3 hX dX7_round_17 ?_
      refine aw_iconst hX (v := nI 0) (by decide) dX7_round_18 ?_
      refine aw_sipush hX (v := nI 800) (by decide) dX7_round_19 ?_
      refine cs_X7_within hX ml_X7_73 dX7_round_22 (m_X7_within_b _ G S _ _ _ true hday) (Nat.le_of_ble_eq_true rfl) ?_
      first | with_reducible refine aw_ifneB hX (tgt := 30) dX7_round_25 (by decide) (fun c_25 => ?_) (fun c_25 => ?_) | refine aw_ifne hX (tgt := 30) dX7_round_25 (by decide) (fun c_25 => ?_) (fun c_25 => ?_)
      · skip
        refine aw_iconst hX (v := nI 0) (by decide) dX7_round_30 ?_
        refine aw_istore_4 hX rfl (by decide) dX7_round_31 ?_
        refine l1 (S.1 7) 0 (by omega) ?_
        refine aw_aload_0 hX dX7_round_69 ?_
        refine ag_X7_tour hX fl_X7_54 dX7_round_70 ?_
        refine cv_X6_restart hX ml_X7_217 dX7_round_73 (m_X6_restart _ G (wfX S hd day (S.1 7))) (Nat.le_of_ble_eq_true rfl) ?_
        refine aw_iconst hX (v := nI 0) (by decide) dX7_round_76 ?_
        refine aw_istore_4 hX rfl (by decide) dX7_round_77 ?_
        refine l2 (S.1 7) 0 (by omega) ?_
        refine aw_aload_0 hX dX7_round_154 ?_
        refine ag_X7_tour hX fl_X7_54 dX7_round_155 ?_
        refine cv_X6_findLeastWay hX ml_X7_233 dX7_round_158 (m_X6_findLeastWay _ G (asX (sN (wfX S hd day (S.1 7)) 11 0) k (S.1 7)) htr.1 htr) (Nat.le_of_ble_eq_true rfl) ?_
        refine aw_aload_0 hX dX7_round_161 ?_
        refine ag_X7_tour hX fl_X7_54 dX7_round_162 ?_
        refine ag_X6_size hX fl_X7_236 dX7_round_165 ?_
        refine aw_ti (congrArg nI (exX_N (by decide) 7 _ 0 0 0 0)) ?_
        refine aw_finI (hR _ _ dX7_round_168) ?_ ?_
        · rfl
        · rfl
      · cases c_25
