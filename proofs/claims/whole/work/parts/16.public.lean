def byX (v : Int64) (k : Nat) : Int32 := (v.toUInt64 >>> ((nI (8 * k)).toInt64.toUInt64 &&& Int64.toUInt64 63)).toInt64.toInt32 &&& nI 255
def apX (v : Int64) : Nat → St → St
  | 0, S => S
  | k + 1, S => apX v k (sN (sA S 10 (S.1 2) (byX v k)) 2 (S.1 2 + 1))
theorem apX_2 (v : Int64) : ∀ (k : Nat) (S : St), (apX v k S).1 2 = S.1 2 + k
  | 0, S => rfl
  | k + 1, S => by rw [apX, apX_2 v k]; simp only [sN_N, reduceIte]; omega
theorem inR_out {x : Int32} {n : Nat} (h : inR x (nI 0) (nI n) = false) (hn : n < 2 ^ 31) : x.toInt < 0 ∨ (n : Int) < x.toInt := by
  simp only [inR, Bool.and_eq_false_iff, decide_eq_false_iff_not, Int32.le_iff_toInt_le, nI_toInt hn, nI_toInt (show 0 < 2 ^ 31 by decide)] at h
  omega
theorem upd_s {f : Nat → Int32} {k : Nat} {x : Int32} : upd f k x k = x := by simp [upd]
set_option maxHeartbeats 4000000 in
set_option maxRecDepth 100000 in
theorem m_X0_append (d : Nat) (G : GT) (S : St) (v : Int64) (k : Nat) (hk : S.1 2 + k ≤ 60) : rX0_append G (d + 1) [.ref (gad G 1), .long v, .int (nI k)] S none (apX v k S) := by
  refine runs_V (d := d) (by decide) (Nat.le_of_ble_eq_true rfl) (fun X (hX : XC X G d RX0 cX0_append 5) hR => ?_)
  show AW X G 0 [.ref (gad G 1), .long v, .null, .int (nI k), .null] [] S
  have loop : ∀ (n : Nat) (S1 : St), S1.1 2 + n ≤ 60 → apX v n S1 = apX v k S → AW X G 5 [.ref (gad G 1), .long v, .null, .int (nI k), .int (nI n - nI 1)] [] S1 := by
    intro n
    induction n with
    | zero =>
      intro S1 hn hp
      refine aw_iload_4 hX dX0_append_5 ?_
      refine aw_iflt hX (tgt := 56) dX0_append_7 (by decide) (fun c_7 => ?_) (fun c_7 => ?_)
      · skip
        refine aw_finV (hR _ _ dX0_append_56) ?_
        exact hp
      · exact absurd (by decide) c_7
    | succ n ih =>
      intro S1 hn hp
      rw [np1]
      refine aw_iload_4 hX dX0_append_5 ?_
      refine aw_iflt hX (tgt := 56) dX0_append_7 (by decide) (fun c_7 => ?_) (fun c_7 => ?_)
      · exact absurd c_7 (nI_pos (by omega))
      · skip
        refine aw_aload_0 hX dX0_append_10 ?_
        refine ag_X0_size hX fl_X0_15 dX0_append_11 ?_
        try simp only [sN_N, sN_A, sN_L, sN_R, sA_N, sA_A, sA_L, sA_R, sL_N, sL_A, sL_L, sL_R, sR_N, sR_A, sR_L, sR_R, reduceIte]
        refine aw_bipush hX (v := nI 60) (by decide) dX0_append_14 ?_
        first | with_reducible refine aw_icmpgeN hX (tgt := 56) dX0_append_16 (by decide) (by omega) (by omega) (fun c_16 => ?_) (fun c_16 => ?_) | refine aw_jge hX (tgt := 56) dX0_append_16 (by decide) (fun c_16 => ?_) (fun c_16 => ?_)
        · exact absurd c_16 (by omega)
        · skip
          refine aw_aload_0 hX dX0_append_19 ?_
          refine ag_X0_bytes hX fl_X0_11 dX0_append_20 ?_
          try simp only [sN_N, sN_A, sN_L, sN_R, sA_N, sA_A, sA_L, sA_R, sL_N, sL_A, sL_L, sL_R, sR_N, sR_A, sR_L, sR_R, reduceIte]
          refine aw_aload_0 hX dX0_append_23 ?_
          refine ag_X0_size hX fl_X0_15 dX0_append_24 ?_
          try simp only [sN_N, sN_A, sN_L, sN_R, sA_N, sA_A, sA_L, sA_R, sL_N, sL_A, sL_L, sL_R, sR_N, sR_A, sR_L, sR_R, reduceIte]
          refine aw_lload_1 hX dX0_append_27 ?_
          refine aw_bipush hX (v := nI 8) (by decide) dX0_append_28 ?_
          refine aw_iload_4 hX dX0_append_30 ?_
          first | with_reducible refine aw_imulN hX dX0_append_32 ?_ | refine aw_imul hX dX0_append_32 ?_
          refine aw_lushr hX dX0_append_33 ?_
          refine aw_l2i hX dX0_append_34 ?_
          refine aw_sipush hX (v := nI 255) (by decide) dX0_append_35 ?_
          refine aw_iand hX dX0_append_38 ?_
          refine aw_iast hX dX0_append_39 rfl (fun _ => rfl) (by decide) (by omega) ?_
          refine aw_aload_0 hX dX0_append_40 ?_
          refine aw_dup hX rfl dX0_append_41 ?_
          refine ag_X0_size hX fl_X0_15 dX0_append_42 ?_
          try simp only [sN_N, sN_A, sN_L, sN_R, sA_N, sA_A, sA_L, sA_R, sL_N, sL_A, sL_L, sL_R, sR_N, sR_A, sR_L, sR_R, reduceIte]
          refine aw_iconst hX (v := nI 1) (by decide) dX0_append_45 ?_
          first | with_reducible refine aw_iaddN hX dX0_append_46 ?_ | refine aw_iadd hX dX0_append_46 ?_
          refine ap_X0_size hX fl_X0_15 dX0_append_47 ?_
          refine aw_iinc_4 hX rfl (by decide) dX0_append_50 ?_
          refine aw_goto hX (tgt := 5) dX0_append_53 (by decide) ?_
          rw [nm1]; exact ih _ (by simp only [sN_N, sA_N, reduceIte]; omega) hp
  refine aw_iload_3 hX dX0_append_0 ?_
  refine aw_iconst hX (v := nI 1) (by decide) dX0_append_1 ?_
  refine aw_isub hX dX0_append_2 ?_
  refine aw_istore_4 hX rfl (by decide) dX0_append_3 ?_
  exact loop k S hk rfl
set_option maxHeartbeats 4000000 in
set_option maxRecDepth 100000 in
theorem m_X7_type_bad (d : Nat) (G : GT) (S : St) (v : Int64) (n : Int32) (h : inR n (nI 1) (nI 8) = false) : rX7_type G (d + 2) [.ref (gad G 0), .long v, .int n] S (some (.int (-1))) S := by
  refine runs_I (d := (d + 1)) (by decide) (Nat.le_of_ble_eq_true rfl) (fun X (hX : XC X G (d + 1) RX7 cX7_type 4) hR => ?_)
  show AW X G 0 [.ref (gad G 0), .long v, .null, .int n] [] S
  refine aw_iload_3 hX dX7_type_0 ?_
  refine aw_iconst hX (v := nI 1) (by decide) dX7_type_1 ?_
  refine aw_bipush hX (v := nI 8) (by decide) dX7_type_2 ?_
  refine cs_X7_within hX ml_X7_73 dX7_type_4 (m_X7_within_b _ G S _ _ _ false h) (Nat.le_of_ble_eq_true rfl) ?_
  first | with_reducible refine aw_ifneB hX (tgt := 12) dX7_type_7 (by decide) (fun c_7 => ?_) (fun c_7 => ?_) | refine aw_ifne hX (tgt := 12) dX7_type_7 (by decide) (fun c_7 => ?_) (fun c_7 => ?_)
  · cases c_7
  · skip
    refine aw_iconst hX (v := (-1)) (by decide) dX7_type_10 ?_
    refine aw_finI (hR _ _ dX7_type_11) ?_ ?_
    · rfl
    · rfl
set_option maxHeartbeats 4000000 in
set_option maxRecDepth 100000 in
theorem m_X7_type_full (d : Nat) (G : GT) (S : St) (v : Int64) (k : Nat) (hk : 1 ≤ k) (hk8 : k ≤ 8) (h2 : S.1 2 ≤ 60) (h : 60 < S.1 2 + k) : rX7_type G (d + 2) [.ref (gad G 0), .long v, .int (nI k)] S (some (.int (-3))) S := by
  refine runs_I (d := (d + 1)) (by decide) (Nat.le_of_ble_eq_true rfl) (fun X (hX : XC X G (d + 1) RX7 cX7_type 4) hR => ?_)
  show AW X G 0 [.ref (gad G 0), .long v, .null, .int (nI k)] [] S
  refine aw_iload_3 hX dX7_type_0 ?_
  refine aw_iconst hX (v := nI 1) (by decide) dX7_type_1 ?_
  refine aw_bipush hX (v := nI 8) (by decide) dX7_type_2 ?_
  refine cs_X7_within hX ml_X7_73 dX7_type_4 (m_X7_within_b _ G S _ _ _ true (by rw [inR_nI (by omega) (by omega) (by omega)]; simp; omega)) (Nat.le_of_ble_eq_true rfl) ?_
  first | with_reducible refine aw_ifneB hX (tgt := 12) dX7_type_7 (by decide) (fun c_7 => ?_) (fun c_7 => ?_) | refine aw_ifne hX (tgt := 12) dX7_type_7 (by decide) (fun c_7 => ?_) (fun c_7 => ?_)
  · skip
    refine aw_aload_0 hX dX7_type_12 ?_
    refine ag_X7_draft hX fl_X7_10 dX7_type_13 ?_
    refine aw_iload_3 hX dX7_type_16 ?_
    refine cv_X0_hasRoomFor hX ml_X7_77 dX7_type_17 (m_X0_hasRoomFor _ G S k h2 hk8) (Nat.le_of_ble_eq_true rfl) ?_
    first | with_reducible refine aw_ifneB hX (tgt := 26) dX7_type_20 (by decide) (fun c_20 => ?_) (fun c_20 => ?_) | refine aw_ifne hX (tgt := 26) dX7_type_20 (by decide) (fun c_20 => ?_) (fun c_20 => ?_)
    · exact absurd c_20 (by simp; omega)
    · skip
      refine aw_bipush hX (v := (-3)) (by decide) dX7_type_23 ?_
      refine aw_finI (hR _ _ dX7_type_25) ?_ ?_
      · rfl
      · rfl
  · cases c_7
set_option maxHeartbeats 4000000 in
set_option maxRecDepth 100000 in
theorem m_X7_type_ok (d : Nat) (G : GT) (S : St) (v : Int64) (k : Nat) (hk : 1 ≤ k) (hk8 : k ≤ 8) (h : S.1 2 + k ≤ 60) : rX7_type G (d + 2) [.ref (gad G 0), .long v, .int (nI k)] S (some (.int (nI (S.1 2 + k)))) (apX v k S) := by
  refine runs_I (d := (d + 1)) (by decide) (Nat.le_of_ble_eq_true rfl) (fun X (hX : XC X G (d + 1) RX7 cX7_type 4) hR => ?_)
  show AW X G 0 [.ref (gad G 0), .long v, .null, .int (nI k)] [] S
  refine aw_iload_3 hX dX7_type_0 ?_
  refine aw_iconst hX (v := nI 1) (by decide) dX7_type_1 ?_
  refine aw_bipush hX (v := nI 8) (by decide) dX7_type_2 ?_
  refine cs_X7_within hX ml_X7_73 dX7_type_4 (m_X7_within_b _ G S _ _ _ true (by rw [inR_nI (by omega) (by omega) (by omega)]; simp; omega)) (Nat.le_of_ble_eq_true rfl) ?_
  first | with_reducible refine aw_ifneB hX (tgt := 12) dX7_type_7 (by decide) (fun c_7 => ?_) (fun c_7 => ?_) | refine aw_ifne hX (tgt := 12) dX7_type_7 (by decide) (fun c_7 => ?_) (fun c_7 => ?_)
  · skip
    refine aw_aload_0 hX dX7_type_12 ?_
    refine ag_X7_draft hX fl_X7_10 dX7_type_13 ?_
    refine aw_iload_3 hX dX7_type_16 ?_
    refine cv_X0_hasRoomFor hX ml_X7_77 dX7_type_17 (m_X0_hasRoomFor _ G S k (by omega) hk8) (Nat.le_of_ble_eq_true rfl) ?_
    first | with_reducible refine aw_ifneB hX (tgt := 26) dX7_type_20 (by decide) (fun c_20 => ?_) (fun c_20 => ?_) | refine aw_ifne hX (tgt := 26) dX7_type_20 (by decide) (fun c_20 => ?_) (fun c_20 => ?_)
    · skip
      refine aw_aload_0 hX dX7_type_26 ?_
      refine ag_X7_draft hX fl_X7_10 dX7_type_27 ?_
      refine aw_lload_1 hX dX7_type_30 ?_
      refine aw_iload_3 hX dX7_type_31 ?_
      refine cv_X0_append hX ml_X7_81 dX7_type_32 (m_X0_append _ G S v k h) (Nat.le_of_ble_eq_true rfl) ?_
      refine aw_aload_0 hX dX7_type_35 ?_
      refine ag_X7_draft hX fl_X7_10 dX7_type_36 ?_
      refine ag_X0_size hX fl_X7_85 dX7_type_39 ?_
      rw [apX_2]
      refine aw_finI (hR _ _ dX7_type_42) ?_ ?_
      · rfl
      · rfl
    · exact absurd c_20 (by simp; omega)
  · cases c_7
set_option maxHeartbeats 4000000 in
set_option maxRecDepth 100000 in
theorem m_X7_clear (d : Nat) (G : GT) (S : St)  : rX7_clear G (d + 2) [.ref (gad G 0)] S (some (.int (nI (S.1 2)))) (sN S 2 0) := by
  refine runs_I (d := (d + 1)) (by decide) (Nat.le_of_ble_eq_true rfl) (fun X (hX : XC X G (d + 1) RX7 cX7_clear 1) hR => ?_)
  show AW X G 0 [.ref (gad G 0)] [] S
  refine aw_aload_0 hX dX7_clear_0 ?_
  refine ag_X7_draft hX fl_X7_10 dX7_clear_1 ?_
  refine cv_X0_empty hX ml_X7_88 dX7_clear_4 (m_X0_empty _ G S) (Nat.le_of_ble_eq_true rfl) ?_
  refine aw_finI (hR _ _ dX7_clear_7) ?_ ?_
  · rfl
  · rfl
set_option maxHeartbeats 4000000 in
set_option maxRecDepth 100000 in
theorem m_X7_span_bad (d : Nat) (G : GT) (S : St) (fuel day : Int32) (h : (inR fuel (nI 0) (nI 2) && inR day (nI 0) (nI 500)) = false) : rX7_span G (d + 3) [.ref (gad G 0), .int fuel, .int day] S (some (.int (-1))) S := by
  refine runs_I (d := (d + 2)) (by decide) (Nat.le_of_ble_eq_true rfl) (fun X (hX : XC X G (d + 2) RX7 cX7_span 3) hR => ?_)
  show AW X G 0 [.ref (gad G 0), .int fuel, .int day] [] S
  refine aw_iload_1 hX dX7_span_0 ?_
  refine aw_iconst hX (v := nI 0) (by decide) dX7_span_1 ?_
  refine aw_iconst hX (v := nI 2) (by decide) dX7_span_2 ?_
  refine cs_X7_within hX ml_X7_73 dX7_span_3 (m_X7_within _ G S _ _ _) (Nat.le_of_ble_eq_true rfl) ?_
  first | with_reducible refine aw_ifeqB hX (tgt := 20) dX7_span_6 (by decide) (fun c_6 => ?_) (fun c_6 => ?_) | refine aw_ifeq hX (tgt := 20) dX7_span_6 (by decide) (fun c_6 => ?_) (fun c_6 => ?_)
  · skip
    refine aw_iconst hX (v := (-1)) (by decide) dX7_span_20 ?_
    refine aw_finI (hR _ _ dX7_span_21) ?_ ?_
    · rfl
    · rfl
  · skip
    refine aw_iload_2 hX dX7_span_9 ?_
    refine aw_iconst hX (v := nI 0) (by decide) dX7_span_10 ?_
    refine aw_sipush hX (v := nI 500) (by decide) dX7_span_11 ?_
    refine cs_X7_within hX ml_X7_73 dX7_span_14 (m_X7_within _ G S _ _ _) (Nat.le_of_ble_eq_true rfl) ?_
    first | with_reducible refine aw_ifneB hX (tgt := 22) dX7_span_17 (by decide) (fun c_17 => ?_) (fun c_17 => ?_) | refine aw_ifne hX (tgt := 22) dX7_span_17 (by decide) (fun c_17 => ?_) (fun c_17 => ?_)
    · simp [c_6, c_17] at h
    · skip
      refine aw_iconst hX (v := (-1)) (by decide) dX7_span_20 ?_
      refine aw_finI (hR _ _ dX7_span_21) ?_ ?_
      · rfl
      · rfl
set_option maxHeartbeats 4000000 in
set_option maxRecDepth 100000 in
theorem m_X7_span_ok (d : Nat) (G : GT) (S : St) (fuel day : Int32) (h1 : inR fuel (nI 0) (nI 2) = true) (h2 : inR day (nI 0) (nI 500) = true) (hb : BkOK S) : rX7_span G (d + 3) [.ref (gad G 0), .int fuel, .int day] S (some (.int (spO (S.1 6) (S.2.1 14) (S.2.1 15) (S.2.1 16) (S.2.1 17) (S.2.1 18) fuel day))) S := by
  refine runs_I (d := (d + 2)) (by decide) (Nat.le_of_ble_eq_true rfl) (fun X (hX : XC X G (d + 2) RX7 cX7_span 3) hR => ?_)
  show AW X G 0 [.ref (gad G 0), .int fuel, .int day] [] S
  refine aw_iload_1 hX dX7_span_0 ?_
  refine aw_iconst hX (v := nI 0) (by decide) dX7_span_1 ?_
  refine aw_iconst hX (v := nI 2) (by decide) dX7_span_2 ?_
  refine cs_X7_within hX ml_X7_73 dX7_span_3 (m_X7_within_b _ G S _ _ _ true h1) (Nat.le_of_ble_eq_true rfl) ?_
  first | with_reducible refine aw_ifeqB hX (tgt := 20) dX7_span_6 (by decide) (fun c_6 => ?_) (fun c_6 => ?_) | refine aw_ifeq hX (tgt := 20) dX7_span_6 (by decide) (fun c_6 => ?_) (fun c_6 => ?_)
  · cases c_6
  · skip
    refine aw_iload_2 hX dX7_span_9 ?_
    refine aw_iconst hX (v := nI 0) (by decide) dX7_span_10 ?_
    refine aw_sipush hX (v := nI 500) (by decide) dX7_span_11 ?_
    refine cs_X7_within hX ml_X7_73 dX7_span_14 (m_X7_within_b _ G S _ _ _ true h2) (Nat.le_of_ble_eq_true rfl) ?_
    first | with_reducible refine aw_ifneB hX (tgt := 22) dX7_span_17 (by decide) (fun c_17 => ?_) (fun c_17 => ?_) | refine aw_ifne hX (tgt := 22) dX7_span_17 (by decide) (fun c_17 => ?_) (fun c_17 => ?_)
    · skip
      refine aw_aload_0 hX dX7_span_22 ?_
      refine ag_X7_book hX fl_X7_19 dX7_span_23 ?_
      refine aw_iload_1 hX dX7_span_26 ?_
      refine aw_iload_2 hX dX7_span_27 ?_
      refine cv_X3_spanOn hX ml_X7_103 dX7_span_28 (m_X3_spanOn _ G S _ _ hb.1 hb.2) (Nat.le_of_ble_eq_true rfl) ?_
      refine aw_finI (hR _ _ dX7_span_31) ?_ ?_
      · rfl
      · rfl
    · cases c_17
set_option maxHeartbeats 4000000 in
set_option maxRecDepth 100000 in
theorem m_X7_days_bad (d : Nat) (G : GT) (S : St) (n : Int32) (h : inR n (nI 1) (nI 50) = false) : rX7_days G (d + 2) [.ref (gad G 0), .int n] S (some (.int (-1))) S := by
  refine runs_I (d := (d + 1)) (by decide) (Nat.le_of_ble_eq_true rfl) (fun X (hX : XC X G (d + 1) RX7 cX7_days 2) hR => ?_)
  show AW X G 0 [.ref (gad G 0), .int n] [] S
  refine aw_iload_1 hX dX7_days_0 ?_
  refine aw_iconst hX (v := nI 1) (by decide) dX7_days_1 ?_
  refine aw_bipush hX (v := nI 50) (by decide) dX7_days_2 ?_
  refine cs_X7_within hX ml_X7_73 dX7_days_4 (m_X7_within_b _ G S _ _ _ false h) (Nat.le_of_ble_eq_true rfl) ?_
  first | with_reducible refine aw_ifneB hX (tgt := 12) dX7_days_7 (by decide) (fun c_7 => ?_) (fun c_7 => ?_) | refine aw_ifne hX (tgt := 12) dX7_days_7 (by decide) (fun c_7 => ?_) (fun c_7 => ?_)
  · cases c_7
  · skip
    refine aw_iconst hX (v := (-1)) (by decide) dX7_days_10 ?_
    refine aw_finI (hR _ _ dX7_days_11) ?_ ?_
    · rfl
    · rfl
set_option maxHeartbeats 4000000 in
set_option maxRecDepth 100000 in
theorem m_X7_days_state (d : Nat) (G : GT) (S : St) (k : Nat) (hk : 1 ≤ k) (hk5 : k ≤ 50) (h0 : S.1 0 ≤ 500) (h : 500 < S.1 0 + k) : rX7_days G (d + 2) [.ref (gad G 0), .int (nI k)] S (some (.int (-2))) S := by
  refine runs_I (d := (d + 1)) (by decide) (Nat.le_of_ble_eq_true rfl) (fun X (hX : XC X G (d + 1) RX7 cX7_days 2) hR => ?_)
  show AW X G 0 [.ref (gad G 0), .int (nI k)] [] S
  refine aw_iload_1 hX dX7_days_0 ?_
  refine aw_iconst hX (v := nI 1) (by decide) dX7_days_1 ?_
  refine aw_bipush hX (v := nI 50) (by decide) dX7_days_2 ?_
  refine cs_X7_within hX ml_X7_73 dX7_days_4 (m_X7_within_b _ G S _ _ _ true (by rw [inR_nI (by omega) (by omega) (by omega)]; simp; omega)) (Nat.le_of_ble_eq_true rfl) ?_
  first | with_reducible refine aw_ifneB hX (tgt := 12) dX7_days_7 (by decide) (fun c_7 => ?_) (fun c_7 => ?_) | refine aw_ifne hX (tgt := 12) dX7_days_7 (by decide) (fun c_7 => ?_) (fun c_7 => ?_)
  · skip
    refine aw_aload_0 hX dX7_days_12 ?_
    refine ag_X7_today hX fl_X7_62 dX7_days_13 ?_
    refine aw_iload_1 hX dX7_days_16 ?_
    first | with_reducible refine aw_iaddN hX dX7_days_17 ?_ | refine aw_iadd hX dX7_days_17 ?_
    refine aw_sipush hX (v := nI 500) (by decide) dX7_days_18 ?_
    first | with_reducible refine aw_icmpleN hX (tgt := 27) dX7_days_21 (by decide) (by omega) (by omega) (fun c_21 => ?_) (fun c_21 => ?_) | refine aw_jle hX (tgt := 27) dX7_days_21 (by decide) (fun c_21 => ?_) (fun c_21 => ?_)
    · exact absurd c_21 (by omega)
    · skip
      refine aw_bipush hX (v := (-2)) (by decide) dX7_days_24 ?_
      refine aw_finI (hR _ _ dX7_days_26) ?_ ?_
      · rfl
      · rfl
  · cases c_7
set_option maxHeartbeats 4000000 in
set_option maxRecDepth 100000 in
theorem m_X7_days_ok (d : Nat) (G : GT) (S : St) (k : Nat) (hk : 1 ≤ k) (hk5 : k ≤ 50) (h : S.1 0 + k ≤ 500) : rX7_days G (d + 2) [.ref (gad G 0), .int (nI k)] S (some (.int (nI (S.1 0 + k)))) (sN S 0 (S.1 0 + k)) := by
  refine runs_I (d := (d + 1)) (by decide) (Nat.le_of_ble_eq_true rfl) (fun X (hX : XC X G (d + 1) RX7 cX7_days 2) hR => ?_)
  show AW X G 0 [.ref (gad G 0), .int (nI k)] [] S
  refine aw_iload_1 hX dX7_days_0 ?_
  refine aw_iconst hX (v := nI 1) (by decide) dX7_days_1 ?_
  refine aw_bipush hX (v := nI 50) (by decide) dX7_days_2 ?_
  refine cs_X7_within hX ml_X7_73 dX7_days_4 (m_X7_within_b _ G S _ _ _ true (by rw [inR_nI (by omega) (by omega) (by omega)]; simp; omega)) (Nat.le_of_ble_eq_true rfl) ?_
  first | with_reducible refine aw_ifneB hX (tgt := 12) dX7_days_7 (by decide) (fun c_7 => ?_) (fun c_7 => ?_) | refine aw_ifne hX (tgt := 12) dX7_days_7 (by decide) (fun c_7 => ?_) (fun c_7 => ?_)
  · skip
    refine aw_aload_0 hX dX7_days_12 ?_
    refine ag_X7_today hX fl_X7_62 dX7_days_13 ?_
    refine aw_iload_1 hX dX7_days_16 ?_
    first | with_reducible refine aw_iaddN hX dX7_days_17 ?_ | refine aw_iadd hX dX7_days_17 ?_
    refine aw_sipush hX (v := nI 500) (by decide) dX7_days_18 ?_
    first | with_reducible refine aw_icmpleN hX (tgt := 27) dX7_days_21 (by decide) (by omega) (by omega) (fun c_21 => ?_) (fun c_21 => ?_) | refine aw_jle hX (tgt := 27) dX7_days_21 (by decide) (fun c_21 => ?_) (fun c_21 => ?_)
    · skip
      refine aw_aload_0 hX dX7_days_27 ?_
      refine aw_dup hX rfl dX7_days_28 ?_
      refine ag_X7_today hX fl_X7_62 dX7_days_29 ?_
      refine aw_iload_1 hX dX7_days_32 ?_
      first | with_reducible refine aw_iaddN hX dX7_days_33 ?_ | refine aw_iadd hX dX7_days_33 ?_
      refine ap_X7_today hX fl_X7_62 dX7_days_34 ?_
      refine aw_aload_0 hX dX7_days_37 ?_
      refine ag_X7_today hX fl_X7_62 dX7_days_38 ?_
      try simp only [sN_N, sN_A, sN_L, sN_R, sA_N, sA_A, sA_L, sA_R, sL_N, sL_A, sL_L, sL_R, sR_N, sR_A, sR_L, sR_R, reduceIte]
      refine aw_finI (hR _ _ dX7_days_41) ?_ ?_
      · rfl
      · rfl
    · exact absurd c_21 (by omega)
  · cases c_7
set_option maxHeartbeats 4000000 in
set_option maxRecDepth 100000 in
theorem m_X7_flue_bad (d : Nat) (G : GT) (S : St) (k f h w b x y hd : Int32) (hb : ((inR k (nI 0) (nI 2) && inR f (nI 0) (nI 2) && inR h (nI 1) (nI 30) && inR w (nI 10) (nI 40) && inR b (nI 0) (nI 4)) && (inR x (nI 0) (nI 20) && inR y (nI 0) (nI 20)) && inR hd (nI 0) (nI 3)) = false) : rX7_flue G (d + 3) [.ref (gad G 0), .int k, .int f, .int h, .int w, .int b, .int x, .int y, .int hd] S (some (.int (-1))) S := by
  refine runs_I (d := (d + 2)) (by decide) (Nat.le_of_ble_eq_true rfl) (fun X (hX : XC X G (d + 2) RX7 cX7_flue 9) hR => ?_)
  show AW X G 0 [.ref (gad G 0), .int k, .int f, .int h, .int w, .int b, .int x, .int y, .int hd] [] S
  refine aw_iload_1 hX dX7_flue_0 ?_
  refine aw_iload_2 hX dX7_flue_1 ?_
  refine aw_iload_3 hX dX7_flue_2 ?_
  refine aw_iload_4 hX dX7_flue_3 ?_
  refine aw_iload_5 hX dX7_flue_5 ?_
  refine cs_X7_isBody hX ml_X7_107 dX7_flue_7 (m_X7_isBody _ G S _ _ _ _ _) (Nat.le_of_ble_eq_true rfl) ?_
  first | with_reducible refine aw_ifeqB hX (tgt := 31) dX7_flue_10 (by decide) (fun c_10 => ?_) (fun c_10 => ?_) | refine aw_ifeq hX (tgt := 31) dX7_flue_10 (by decide) (fun c_10 => ?_) (fun c_10 => ?_)
  · skip
    refine aw_iconst hX (v := (-1)) (by decide) dX7_flue_31 ?_
    refine aw_finI (hR _ _ dX7_flue_32) ?_ ?_
    · rfl
    · rfl
  · skip
    refine aw_iload_6 hX dX7_flue_13 ?_
    refine aw_iload_7 hX dX7_flue_15 ?_
    refine cs_X7_isPlace hX ml_X7_111 dX7_flue_17 (m_X7_isPlace _ G S _ _) (Nat.le_of_ble_eq_true rfl) ?_
    first | with_reducible refine aw_ifeqB hX (tgt := 31) dX7_flue_20 (by decide) (fun c_20 => ?_) (fun c_20 => ?_) | refine aw_ifeq hX (tgt := 31) dX7_flue_20 (by decide) (fun c_20 => ?_) (fun c_20 => ?_)
    · skip
      refine aw_iconst hX (v := (-1)) (by decide) dX7_flue_31 ?_
      refine aw_finI (hR _ _ dX7_flue_32) ?_ ?_
      · rfl
      · rfl
    · skip
      refine aw_iload_8 hX dX7_flue_23 ?_
      refine cs_X7_isHand hX ml_X7_115 dX7_flue_25 (m_X7_isHand _ G S _) (Nat.le_of_ble_eq_true rfl) ?_
      first | with_reducible refine aw_ifneB hX (tgt := 33) dX7_flue_28 (by decide) (fun c_28 => ?_) (fun c_28 => ?_) | refine aw_ifne hX (tgt := 33) dX7_flue_28 (by decide) (fun c_28 => ?_) (fun c_28 => ?_)
      · rw [c_10, c_20, c_28] at hb; cases hb
      · skip
        refine aw_iconst hX (v := (-1)) (by decide) dX7_flue_31 ?_
        refine aw_finI (hR _ _ dX7_flue_32) ?_ ?_
        · rfl
        · rfl
set_option maxHeartbeats 4000000 in
set_option maxRecDepth 100000 in
theorem m_X7_flue_full (d : Nat) (G : GT) (S : St) (k f h w b x y hd : Int32) (h1 : (inR k (nI 0) (nI 2) && inR f (nI 0) (nI 2) && inR h (nI 1) (nI 30) && inR w (nI 10) (nI 40) && inR b (nI 0) (nI 4)) = true) (h2 : (inR x (nI 0) (nI 20) && inR y (nI 0) (nI 20)) = true) (h3 : inR hd (nI 0) (nI 3) = true) (hs : S.1 7 = 12) : rX7_flue G (d + 3) [.ref (gad G 0), .int k, .int f, .int h, .int w, .int b, .int x, .int y, .int hd] S (some (.int (-3))) S := by
  refine runs_I (d := (d + 2)) (by decide) (Nat.le_of_ble_eq_true rfl) (fun X (hX : XC X G (d + 2) RX7 cX7_flue 9) hR => ?_)
  show AW X G 0 [.ref (gad G 0), .int k, .int f, .int h, .int w, .int b, .int x, .int y, .int hd] [] S
  refine aw_iload_1 hX dX7_flue_0 ?_
  refine aw_iload_2 hX dX7_flue_1 ?_
  refine aw_iload_3 hX dX7_flue_2 ?_
  refine aw_iload_4 hX dX7_flue_3 ?_
  refine aw_iload_5 hX dX7_flue_5 ?_
  refine cs_X7_isBody hX ml_X7_107 dX7_flue_7 (m_X7_isBody _ G S _ _ _ _ _) (Nat.le_of_ble_eq_true rfl) ?_
  first | with_reducible refine aw_ifeqB hX (tgt := 31) dX7_flue_10 (by decide) (fun c_10 => ?_) (fun c_10 => ?_) | refine aw_ifeq hX (tgt := 31) dX7_flue_10 (by decide) (fun c_10 => ?_) (fun c_10 => ?_)
  · rw [h1] at c_10; cases c_10
  · skip
    refine aw_iload_6 hX dX7_flue_13 ?_
    refine aw_iload_7 hX dX7_flue_15 ?_
    refine cs_X7_isPlace hX ml_X7_111 dX7_flue_17 (m_X7_isPlace _ G S _ _) (Nat.le_of_ble_eq_true rfl) ?_
    first | with_reducible refine aw_ifeqB hX (tgt := 31) dX7_flue_20 (by decide) (fun c_20 => ?_) (fun c_20 => ?_) | refine aw_ifeq hX (tgt := 31) dX7_flue_20 (by decide) (fun c_20 => ?_) (fun c_20 => ?_)
    · rw [h2] at c_20; cases c_20
    · skip
      refine aw_iload_8 hX dX7_flue_23 ?_
      refine cs_X7_isHand hX ml_X7_115 dX7_flue_25 (m_X7_isHand _ G S _) (Nat.le_of_ble_eq_true rfl) ?_
      first | with_reducible refine aw_ifneB hX (tgt := 33) dX7_flue_28 (by decide) (fun c_28 => ?_) (fun c_28 => ?_) | refine aw_ifne hX (tgt := 33) dX7_flue_28 (by decide) (fun c_28 => ?_) (fun c_28 => ?_)
      · skip
        refine aw_aload_0 hX dX7_flue_33 ?_
        refine ag_X7_flues hX fl_X7_26 dX7_flue_34 ?_
        refine cv_X2_isFull hX ml_X7_118 dX7_flue_37 (m_X2_isFull _ G S (by omega)) (Nat.le_of_ble_eq_true rfl) ?_
        first | with_reducible refine aw_ifeqB hX (tgt := 46) dX7_flue_40 (by decide) (fun c_40 => ?_) (fun c_40 => ?_) | refine aw_ifeq hX (tgt := 46) dX7_flue_40 (by decide) (fun c_40 => ?_) (fun c_40 => ?_)
        · exact absurd c_40 (by simp; omega)
        · skip
          refine aw_bipush hX (v := (-3)) (by decide) dX7_flue_43 ?_
          refine aw_finI (hR _ _ dX7_flue_45) ?_ ?_
          · rfl
          · rfl
      · rw [h3] at c_28; cases c_28
set_option maxHeartbeats 4000000 in
set_option maxRecDepth 100000 in
theorem m_X7_flue_ok (d : Nat) (G : GT) (S : St) (k f h w b x y hd : Int32) (h1 : (inR k (nI 0) (nI 2) && inR f (nI 0) (nI 2) && inR h (nI 1) (nI 30) && inR w (nI 10) (nI 40) && inR b (nI 0) (nI 4)) = true) (h2 : (inR x (nI 0) (nI 20) && inR y (nI 0) (nI 20)) = true) (h3 : inR hd (nI 0) (nI 3) = true) (hs : S.1 7 < 12) : rX7_flue G (d + 3) [.ref (gad G 0), .int k, .int f, .int h, .int w, .int b, .int x, .int y, .int hd] S (some (.int (nI (S.1 7)))) (sN (sA (sA (sA (sA (sA (sA (sA (sA (sA (sA S 19 (S.1 7) k) 20 (S.1 7) f) 21 (S.1 7) h) 22 (S.1 7) w) 23 (S.1 7) b) 24 (S.1 7) x) 25 (S.1 7) y) 26 (S.1 7) hd) 27 (S.1 7) (nI (S.1 0))) 28 (S.1 7) (nI 0)) 7 (S.1 7 + 1)) := by
  refine runs_I (d := (d + 2)) (by decide) (Nat.le_of_ble_eq_true rfl) (fun X (hX : XC X G (d + 2) RX7 cX7_flue 9) hR => ?_)
  show AW X G 0 [.ref (gad G 0), .int k, .int f, .int h, .int w, .int b, .int x, .int y, .int hd] [] S
  refine aw_iload_1 hX dX7_flue_0 ?_
  refine aw_iload_2 hX dX7_flue_1 ?_
  refine aw_iload_3 hX dX7_flue_2 ?_
  refine aw_iload_4 hX dX7_flue_3 ?_
  refine aw_iload_5 hX dX7_flue_5 ?_
  refine cs_X7_isBody hX ml_X7_107 dX7_flue_7 (m_X7_isBody _ G S _ _ _ _ _) (Nat.le_of_ble_eq_true rfl) ?_
  first | with_reducible refine aw_ifeqB hX (tgt := 31) dX7_flue_10 (by decide) (fun c_10 => ?_) (fun c_10 => ?_) | refine aw_ifeq hX (tgt := 31) dX7_flue_10 (by decide) (fun c_10 => ?_) (fun c_10 => ?_)
  · rw [h1] at c_10; cases c_10
  · skip
    refine aw_iload_6 hX dX7_flue_13 ?_
    refine aw_iload_7 hX dX7_flue_15 ?_
    refine cs_X7_isPlace hX ml_X7_111 dX7_flue_17 (m_X7_isPlace _ G S _ _) (Nat.le_of_ble_eq_true rfl) ?_
    first | with_reducible refine aw_ifeqB hX (tgt := 31) dX7_flue_20 (by decide) (fun c_20 => ?_) (fun c_20 => ?_) | refine aw_ifeq hX (tgt := 31) dX7_flue_20 (by decide) (fun c_20 => ?_) (fun c_20 => ?_)
    · rw [h2] at c_20; cases c_20
    · skip
      refine aw_iload_8 hX dX7_flue_23 ?_
      refine cs_X7_isHand hX ml_X7_115 dX7_flue_25 (m_X7_isHand _ G S _) (Nat.le_of_ble_eq_true rfl) ?_
      first | with_reducible refine aw_ifneB hX (tgt := 33) dX7_flue_28 (by decide) (fun c_28 => ?_) (fun c_28 => ?_) | refine aw_ifne hX (tgt := 33) dX7_flue_28 (by decide) (fun c_28 => ?_) (fun c_28 => ?_)
      · skip
        refine aw_aload_0 hX dX7_flue_33 ?_
        refine ag_X7_flues hX fl_X7_26 dX7_flue_34 ?_
        refine cv_X2_isFull hX ml_X7_118 dX7_flue_37 (m_X2_isFull _ G S (by omega)) (Nat.le_of_ble_eq_true rfl) ?_
        first | with_reducible refine aw_ifeqB hX (tgt := 46) dX7_flue_40 (by decide) (fun c_40 => ?_) (fun c_40 => ?_) | refine aw_ifeq hX (tgt := 46) dX7_flue_40 (by decide) (fun c_40 => ?_) (fun c_40 => ?_)
        · skip
          refine aw_aload_0 hX dX7_flue_46 ?_
          refine ag_X7_flues hX fl_X7_26 dX7_flue_47 ?_
          refine aw_iload_1 hX dX7_flue_50 ?_
          refine aw_iload_2 hX dX7_flue_51 ?_
          refine aw_iload_3 hX dX7_flue_52 ?_
          refine aw_iload_4 hX dX7_flue_53 ?_
          refine aw_iload_5 hX dX7_flue_55 ?_
          refine cv_X2_setBody hX ml_X7_119 dX7_flue_57 (m_X2_setBody _ G S _ _ _ _ _ hs) (Nat.le_of_ble_eq_true rfl) ?_
          refine aw_aload_0 hX dX7_flue_60 ?_
          refine ag_X7_flues hX fl_X7_26 dX7_flue_61 ?_
          try simp only [sN_N, sN_A, sN_L, sN_R, sA_N, sA_A, sA_L, sA_R, sL_N, sL_A, sL_L, sL_R, sR_N, sR_A, sR_L, sR_R, reduceIte]
          refine aw_iload_6 hX dX7_flue_64 ?_
          refine aw_iload_7 hX dX7_flue_66 ?_
          refine aw_iload_8 hX dX7_flue_68 ?_
          refine aw_aload_0 hX dX7_flue_70 ?_
          refine ag_X7_today hX fl_X7_62 dX7_flue_71 ?_
          try simp only [sN_N, sN_A, sN_L, sN_R, sA_N, sA_A, sA_L, sA_R, sL_N, sL_A, sL_L, sL_R, sR_N, sR_A, sR_L, sR_R, reduceIte]
          refine cv_X2_setPlace hX ml_X7_123 dX7_flue_74 (m_X2_setPlace _ G (sA (sA (sA (sA (sA S 19 (S.1 7) k) 20 (S.1 7) f) 21 (S.1 7) h) 22 (S.1 7) w) 23 (S.1 7) b) _ _ _ _ hs) (Nat.le_of_ble_eq_true rfl) ?_
          refine aw_aload_0 hX dX7_flue_77 ?_
          refine ag_X7_flues hX fl_X7_26 dX7_flue_78 ?_
          try simp only [sN_N, sN_A, sN_L, sN_R, sA_N, sA_A, sA_L, sA_R, sL_N, sL_A, sL_L, sL_R, sR_N, sR_A, sR_L, sR_R, reduceIte]
          refine cv_X2_add hX ml_X7_127 dX7_flue_81 (m_X2_add _ G (sA (sA (sA (sA (sA (sA (sA (sA (sA S 19 (S.1 7) k) 20 (S.1 7) f) 21 (S.1 7) h) 22 (S.1 7) w) 23 (S.1 7) b) 24 (S.1 7) x) 25 (S.1 7) y) 26 (S.1 7) hd) 27 (S.1 7) (nI (S.1 0))) hs) (Nat.le_of_ble_eq_true rfl) ?_
          refine aw_finI (hR _ _ dX7_flue_84) ?_ ?_
          · rfl
          · rfl
        · exact absurd c_40 (by simp; omega)
      · rw [h3] at c_28; cases c_28
set_option maxHeartbeats 4000000 in
set_option maxRecDepth 100000 in
theorem m_X7_draught_bad (d : Nat) (G : GT) (S : St) (f : Int32) (h7 : S.1 7 ≤ 12) (h : hasB f (S.1 7) = false) : rX7_draught G (d + 2) [.ref (gad G 0), .int f] S (some (.int (-1))) S := by
  refine runs_I (d := (d + 1)) (by decide) (Nat.le_of_ble_eq_true rfl) (fun X (hX : XC X G (d + 1) RX7 cX7_draught 2) hR => ?_)
  show AW X G 0 [.ref (gad G 0), .int f] [] S
  refine aw_aload_0 hX dX7_draught_0 ?_
  refine ag_X7_flues hX fl_X7_26 dX7_draught_1 ?_
  refine aw_iload_1 hX dX7_draught_4 ?_
  refine cv_X2_has hX ml_X7_129 dX7_draught_5 (m_X2_has_b _ G S _ false h7 h) (Nat.le_of_ble_eq_true rfl) ?_
  first | with_reducible refine aw_ifneB hX (tgt := 13) dX7_draught_8 (by decide) (fun c_8 => ?_) (fun c_8 => ?_) | refine aw_ifne hX (tgt := 13) dX7_draught_8 (by decide) (fun c_8 => ?_) (fun c_8 => ?_)
  · cases c_8
  · skip
    refine aw_iconst hX (v := (-1)) (by decide) dX7_draught_11 ?_
    refine aw_finI (hR _ _ dX7_draught_12) ?_ ?_
    · rfl
    · rfl
set_option maxHeartbeats 4000000 in
set_option maxRecDepth 100000 in
theorem m_X7_draught_0 (d : Nat) (G : GT) (S : St) (i : Nat) (hi : i < S.1 7) (h7 : S.1 7 ≤ 12) (hw : ¬ S.2.1 22 i ≤ 0) (k : Nat) (hk : S.2.1 20 i = nI k) (hk3 : k < 3) (hd : S.2.1 19 i = nI 0) : rX7_draught G (d + 5) [.ref (gad G 0), .int (nI i)] S (some (.int (pulR S i k))) (sL S 0 (S.2.2.1 0 + 1)) := by
  refine runs_I (d := (d + 4)) (by decide) (Nat.le_of_ble_eq_true rfl) (fun X (hX : XC X G (d + 4) RX7 cX7_draught 2) hR => ?_)
  show AW X G 0 [.ref (gad G 0), .int (nI i)] [] S
  refine aw_aload_0 hX dX7_draught_0 ?_
  refine ag_X7_flues hX fl_X7_26 dX7_draught_1 ?_
  refine aw_iload_1 hX dX7_draught_4 ?_
  refine cv_X2_has hX ml_X7_129 dX7_draught_5 (m_X2_has_b _ G S _ true h7 (hasB_t hi (by omega))) (Nat.le_of_ble_eq_true rfl) ?_
  first | with_reducible refine aw_ifneB hX (tgt := 13) dX7_draught_8 (by decide) (fun c_8 => ?_) (fun c_8 => ?_) | refine aw_ifne hX (tgt := 13) dX7_draught_8 (by decide) (fun c_8 => ?_) (fun c_8 => ?_)
  · skip
    refine aw_aload_0 hX dX7_draught_13 ?_
    refine ag_X7_flues hX fl_X7_26 dX7_draught_14 ?_
    refine ag_X2_kind hX fl_X7_132 dX7_draught_17 ?_
    refine aw_iload_1 hX dX7_draught_20 ?_
    refine aw_iald hX dX7_draught_21 rfl (by decide) (by omega) ?_
    refine aw_ti hd ?_
    refine aw_lookup hX (x := nI 0) (off := 26) (tgt := 48) dX7_draught_22 (by decide) (by decide) (by decide) ?_
    refine aw_aload_0 hX dX7_draught_48 ?_
    refine aw_iload_1 hX dX7_draught_49 ?_
    refine cv_X7_straightPull hX ml_X7_136 dX7_draught_50 (m_X7_straightPull _ G S i k (by omega) hw hk hk3) (Nat.le_of_ble_eq_true rfl) ?_
    refine aw_finI (hR _ _ dX7_draught_53) ?_ ?_
    · rfl
    · rfl
  · cases c_8
set_option maxHeartbeats 4000000 in
set_option maxRecDepth 100000 in
theorem m_X7_draught_1 (d : Nat) (G : GT) (S : St) (i : Nat) (hi : i < S.1 7) (h7 : S.1 7 ≤ 12) (hw : ¬ S.2.1 22 i ≤ 0) (k : Nat) (hk : S.2.1 20 i = nI k) (hk3 : k < 3) (hd : S.2.1 19 i = nI 1) : rX7_draught G (d + 5) [.ref (gad G 0), .int (nI i)] S (some (.int (mx0 (pulR S i k - nI 2 * S.2.1 23 i)))) (sL S 0 (S.2.2.1 0 + 10 + 1)) := by
  refine runs_I (d := (d + 4)) (by decide) (Nat.le_of_ble_eq_true rfl) (fun X (hX : XC X G (d + 4) RX7 cX7_draught 2) hR => ?_)
  show AW X G 0 [.ref (gad G 0), .int (nI i)] [] S
  refine aw_aload_0 hX dX7_draught_0 ?_
  refine ag_X7_flues hX fl_X7_26 dX7_draught_1 ?_
  refine aw_iload_1 hX dX7_draught_4 ?_
  refine cv_X2_has hX ml_X7_129 dX7_draught_5 (m_X2_has_b _ G S _ true h7 (hasB_t hi (by omega))) (Nat.le_of_ble_eq_true rfl) ?_
  first | with_reducible refine aw_ifneB hX (tgt := 13) dX7_draught_8 (by decide) (fun c_8 => ?_) (fun c_8 => ?_) | refine aw_ifne hX (tgt := 13) dX7_draught_8 (by decide) (fun c_8 => ?_) (fun c_8 => ?_)
  · skip
    refine aw_aload_0 hX dX7_draught_13 ?_
    refine ag_X7_flues hX fl_X7_26 dX7_draught_14 ?_
    refine ag_X2_kind hX fl_X7_132 dX7_draught_17 ?_
    refine aw_iload_1 hX dX7_draught_20 ?_
    refine aw_iald hX dX7_draught_21 rfl (by decide) (by omega) ?_
    refine aw_ti hd ?_
    refine aw_lookup hX (x := nI 1) (off := 32) (tgt := 54) dX7_draught_22 (by decide) (by decide) (by decide) ?_
    refine aw_aload_0 hX dX7_draught_54 ?_
    refine aw_iload_1 hX dX7_draught_55 ?_
    refine cv_X7_bentPull hX ml_X7_140 dX7_draught_56 (m_X7_bentPull _ G S i k (by omega) hw hk hk3) (Nat.le_of_ble_eq_true rfl) ?_
    refine aw_finI (hR _ _ dX7_draught_59) ?_ ?_
    · rfl
    · rfl
  · cases c_8
set_option maxHeartbeats 4000000 in
set_option maxRecDepth 100000 in
theorem m_X7_draught_2 (d : Nat) (G : GT) (S : St) (i : Nat) (hi : i < S.1 7) (h7 : S.1 7 ≤ 12) (hw : ¬ S.2.1 22 i ≤ 0) (k : Nat) (hk : S.2.1 20 i = nI k) (hk3 : k < 3) (hd : S.2.1 19 i = nI 2) : rX7_draught G (d + 5) [.ref (gad G 0), .int (nI i)] S (some (.int (mx0 (pulR S i k - nI 2 * S.2.1 23 i) / nI 2))) (sL S 0 (S.2.2.1 0 + 100 + 10 + 1)) := by
  refine runs_I (d := (d + 4)) (by decide) (Nat.le_of_ble_eq_true rfl) (fun X (hX : XC X G (d + 4) RX7 cX7_draught 2) hR => ?_)
  show AW X G 0 [.ref (gad G 0), .int (nI i)] [] S
  refine aw_aload_0 hX dX7_draught_0 ?_
  refine ag_X7_flues hX fl_X7_26 dX7_draught_1 ?_
  refine aw_iload_1 hX dX7_draught_4 ?_
  refine cv_X2_has hX ml_X7_129 dX7_draught_5 (m_X2_has_b _ G S _ true h7 (hasB_t hi (by omega))) (Nat.le_of_ble_eq_true rfl) ?_
  first | with_reducible refine aw_ifneB hX (tgt := 13) dX7_draught_8 (by decide) (fun c_8 => ?_) (fun c_8 => ?_) | refine aw_ifne hX (tgt := 13) dX7_draught_8 (by decide) (fun c_8 => ?_) (fun c_8 => ?_)
  · skip
    refine aw_aload_0 hX dX7_draught_13 ?_
    refine ag_X7_flues hX fl_X7_26 dX7_draught_14 ?_
    refine ag_X2_kind hX fl_X7_132 dX7_draught_17 ?_
    refine aw_iload_1 hX dX7_draught_20 ?_
    refine aw_iald hX dX7_draught_21 rfl (by decide) (by omega) ?_
    refine aw_ti hd ?_
    refine aw_lookup hX (off := 38) (tgt := 60) dX7_draught_22 (by decide) ((lv_osw (show ¬ nI 2 = nI 0 by decide) (by decide)).trans ((lv_osw (show ¬ nI 2 = nI 1 by decide) (by decide)).trans rfl)) (by decide) ?_
    refine aw_aload_0 hX dX7_draught_60 ?_
    refine aw_iload_1 hX dX7_draught_61 ?_
    refine cv_X7_sharedPull hX ml_X7_143 dX7_draught_62 (m_X7_sharedPull _ G S i k (by omega) hw hk hk3) (Nat.le_of_ble_eq_true rfl) ?_
    refine aw_finI (hR _ _ dX7_draught_65) ?_ ?_
    · rfl
    · rfl
  · cases c_8
set_option maxHeartbeats 4000000 in
set_option maxRecDepth 100000 in
theorem m_X7_about_bad (d : Nat) (G : GT) (S : St) (f : Int32) (h7 : S.1 7 ≤ 12) (h : hasB f (S.1 7) = false) (w : Int32) : rX7_about G (d + 2) [.ref (gad G 0), .int f, .int w] S (some (.int (-1))) S := by
  refine runs_I (d := (d + 1)) (by decide) (Nat.le_of_ble_eq_true rfl) (fun X (hX : XC X G (d + 1) RX7 cX7_about 3) hR => ?_)
  show AW X G 0 [.ref (gad G 0), .int f, .int w] [] S
  refine aw_aload_0 hX dX7_about_0 ?_
  refine ag_X7_flues hX fl_X7_26 dX7_about_1 ?_
  refine aw_iload_1 hX dX7_about_4 ?_
  refine cv_X2_has hX ml_X7_129 dX7_about_5 (m_X2_has_b _ G S _ false h7 h) (Nat.le_of_ble_eq_true rfl) ?_
  first | with_reducible refine aw_ifneB hX (tgt := 13) dX7_about_8 (by decide) (fun c_8 => ?_) (fun c_8 => ?_) | refine aw_ifne hX (tgt := 13) dX7_about_8 (by decide) (fun c_8 => ?_) (fun c_8 => ?_)
  · cases c_8
  · skip
    refine aw_iconst hX (v := (-1)) (by decide) dX7_about_11 ?_
    refine aw_finI (hR _ _ dX7_about_12) ?_ ?_
    · rfl
    · rfl
set_option maxHeartbeats 4000000 in
set_option maxRecDepth 100000 in
theorem m_X7_about_out (d : Nat) (G : GT) (S : St) (i : Nat) (hi : i < S.1 7) (h7 : S.1 7 ≤ 12) (w : Int32) (h : inR w (nI 0) (nI 7) = false) : rX7_about G (d + 2) [.ref (gad G 0), .int (nI i), .int w] S (some (.int (-1))) S := by
  refine runs_I (d := (d + 1)) (by decide) (Nat.le_of_ble_eq_true rfl) (fun X (hX : XC X G (d + 1) RX7 cX7_about 3) hR => ?_)
  show AW X G 0 [.ref (gad G 0), .int (nI i), .int w] [] S
  refine aw_aload_0 hX dX7_about_0 ?_
  refine ag_X7_flues hX fl_X7_26 dX7_about_1 ?_
  refine aw_iload_1 hX dX7_about_4 ?_
  refine cv_X2_has hX ml_X7_129 dX7_about_5 (m_X2_has_b _ G S _ true h7 (hasB_t hi (by omega))) (Nat.le_of_ble_eq_true rfl) ?_
  first | with_reducible refine aw_ifneB hX (tgt := 13) dX7_about_8 (by decide) (fun c_8 => ?_) (fun c_8 => ?_) | refine aw_ifne hX (tgt := 13) dX7_about_8 (by decide) (fun c_8 => ?_) (fun c_8 => ?_)
  · skip
    refine aw_iload_2 hX dX7_about_13 ?_
    refine aw_tabOut hX (tgt := 135) dX7_about_14 (inR_out h (by decide)) (by decide) ?_
    refine aw_iconst hX (v := (-1)) (by decide) dX7_about_135 ?_
    refine aw_finI (hR _ _ dX7_about_136) ?_ ?_
    · rfl
    · rfl
  · cases c_8
set_option maxHeartbeats 4000000 in
set_option maxRecDepth 100000 in
theorem m_X7_about_0 (d : Nat) (G : GT) (S : St) (i : Nat) (hi : i < S.1 7) (h7 : S.1 7 ≤ 12)  : rX7_about G (d + 2) [.ref (gad G 0), .int (nI i), .int (nI 0)] S (some (.int (S.2.1 19 i))) S := by
  refine runs_I (d := (d + 1)) (by decide) (Nat.le_of_ble_eq_true rfl) (fun X (hX : XC X G (d + 1) RX7 cX7_about 3) hR => ?_)
  show AW X G 0 [.ref (gad G 0), .int (nI i), .int (nI 0)] [] S
  refine aw_aload_0 hX dX7_about_0 ?_
  refine ag_X7_flues hX fl_X7_26 dX7_about_1 ?_
  refine aw_iload_1 hX dX7_about_4 ?_
  refine cv_X2_has hX ml_X7_129 dX7_about_5 (m_X2_has_b _ G S _ true h7 (hasB_t hi (by omega))) (Nat.le_of_ble_eq_true rfl) ?_
  first | with_reducible refine aw_ifneB hX (tgt := 13) dX7_about_8 (by decide) (fun c_8 => ?_) (fun c_8 => ?_) | refine aw_ifne hX (tgt := 13) dX7_about_8 (by decide) (fun c_8 => ?_) (fun c_8 => ?_)
  · skip
    refine aw_iload_2 hX dX7_about_13 ?_
    refine aw_tabIn hX (x := nI 0) (off := 46) (tgt := 60) dX7_about_14 (by decide) (by decide) (by decide) (by decide) ?_
    refine aw_aload_0 hX dX7_about_60 ?_
    refine ag_X7_flues hX fl_X7_26 dX7_about_61 ?_
    refine ag_X2_kind hX fl_X7_132 dX7_about_64 ?_
    refine aw_iload_1 hX dX7_about_67 ?_
    refine aw_iald hX dX7_about_68 rfl (by decide) (by omega) ?_
    refine aw_finI (hR _ _ dX7_about_69) ?_ ?_
    · rfl
    · rfl
  · cases c_8
set_option maxHeartbeats 4000000 in
set_option maxRecDepth 100000 in
theorem m_X7_about_1 (d : Nat) (G : GT) (S : St) (i : Nat) (hi : i < S.1 7) (h7 : S.1 7 ≤ 12)  : rX7_about G (d + 2) [.ref (gad G 0), .int (nI i), .int (nI 1)] S (some (.int (S.2.1 20 i))) S := by
  refine runs_I (d := (d + 1)) (by decide) (Nat.le_of_ble_eq_true rfl) (fun X (hX : XC X G (d + 1) RX7 cX7_about 3) hR => ?_)
  show AW X G 0 [.ref (gad G 0), .int (nI i), .int (nI 1)] [] S
  refine aw_aload_0 hX dX7_about_0 ?_
  refine ag_X7_flues hX fl_X7_26 dX7_about_1 ?_
  refine aw_iload_1 hX dX7_about_4 ?_
  refine cv_X2_has hX ml_X7_129 dX7_about_5 (m_X2_has_b _ G S _ true h7 (hasB_t hi (by omega))) (Nat.le_of_ble_eq_true rfl) ?_
  first | with_reducible refine aw_ifneB hX (tgt := 13) dX7_about_8 (by decide) (fun c_8 => ?_) (fun c_8 => ?_) | refine aw_ifne hX (tgt := 13) dX7_about_8 (by decide) (fun c_8 => ?_) (fun c_8 => ?_)
  · skip
    refine aw_iload_2 hX dX7_about_13 ?_
    refine aw_tabIn hX (x := nI 1) (off := 56) (tgt := 70) dX7_about_14 (by decide) (by decide) (by decide) (by decide) ?_
    refine aw_aload_0 hX dX7_about_70 ?_
    refine ag_X7_flues hX fl_X7_26 dX7_about_71 ?_
    refine ag_X2_fuel hX fl_X7_146 dX7_about_74 ?_
    refine aw_iload_1 hX dX7_about_77 ?_
    refine aw_iald hX dX7_about_78 rfl (by decide) (by omega) ?_
    refine aw_finI (hR _ _ dX7_about_79) ?_ ?_
    · rfl
    · rfl
  · cases c_8
set_option maxHeartbeats 4000000 in
set_option maxRecDepth 100000 in
theorem m_X7_about_2 (d : Nat) (G : GT) (S : St) (i : Nat) (hi : i < S.1 7) (h7 : S.1 7 ≤ 12)  : rX7_about G (d + 2) [.ref (gad G 0), .int (nI i), .int (nI 2)] S (some (.int (S.2.1 21 i))) S := by
  refine runs_I (d := (d + 1)) (by decide) (Nat.le_of_ble_eq_true rfl) (fun X (hX : XC X G (d + 1) RX7 cX7_about 3) hR => ?_)
  show AW X G 0 [.ref (gad G 0), .int (nI i), .int (nI 2)] [] S
  refine aw_aload_0 hX dX7_about_0 ?_
  refine ag_X7_flues hX fl_X7_26 dX7_about_1 ?_
  refine aw_iload_1 hX dX7_about_4 ?_
  refine cv_X2_has hX ml_X7_129 dX7_about_5 (m_X2_has_b _ G S _ true h7 (hasB_t hi (by omega))) (Nat.le_of_ble_eq_true rfl) ?_
  first | with_reducible refine aw_ifneB hX (tgt := 13) dX7_about_8 (by decide) (fun c_8 => ?_) (fun c_8 => ?_) | refine aw_ifne hX (tgt := 13) dX7_about_8 (by decide) (fun c_8 => ?_) (fun c_8 => ?_)
  · skip
    refine aw_iload_2 hX dX7_about_13 ?_
    refine aw_tabIn hX (x := nI 2) (off := 66) (tgt := 80) dX7_about_14 (by decide) (by decide) (by decide) (by decide) ?_
    refine aw_aload_0 hX dX7_about_80 ?_
    refine ag_X7_flues hX fl_X7_26 dX7_about_81 ?_
    refine ag_X2_height hX fl_X7_149 dX7_about_84 ?_
    refine aw_iload_1 hX dX7_about_87 ?_
    refine aw_iald hX dX7_about_88 rfl (by decide) (by omega) ?_
    refine aw_finI (hR _ _ dX7_about_89) ?_ ?_
    · rfl
    · rfl
  · cases c_8
set_option maxHeartbeats 4000000 in
set_option maxRecDepth 100000 in
theorem m_X7_about_3 (d : Nat) (G : GT) (S : St) (i : Nat) (hi : i < S.1 7) (h7 : S.1 7 ≤ 12)  : rX7_about G (d + 2) [.ref (gad G 0), .int (nI i), .int (nI 3)] S (some (.int (S.2.1 26 i))) S := by
  refine runs_I (d := (d + 1)) (by decide) (Nat.le_of_ble_eq_true rfl) (fun X (hX : XC X G (d + 1) RX7 cX7_about 3) hR => ?_)
  show AW X G 0 [.ref (gad G 0), .int (nI i), .int (nI 3)] [] S
  refine aw_aload_0 hX dX7_about_0 ?_
  refine ag_X7_flues hX fl_X7_26 dX7_about_1 ?_
  refine aw_iload_1 hX dX7_about_4 ?_
  refine cv_X2_has hX ml_X7_129 dX7_about_5 (m_X2_has_b _ G S _ true h7 (hasB_t hi (by omega))) (Nat.le_of_ble_eq_true rfl) ?_
  first | with_reducible refine aw_ifneB hX (tgt := 13) dX7_about_8 (by decide) (fun c_8 => ?_) (fun c_8 => ?_) | refine aw_ifne hX (tgt := 13) dX7_about_8 (by decide) (fun c_8 => ?_) (fun c_8 => ?_)
  · skip
    refine aw_iload_2 hX dX7_about_13 ?_
    refine aw_tabIn hX (x := nI 3) (off := 76) (tgt := 90) dX7_about_14 (by decide) (by decide) (by decide) (by decide) ?_
    refine aw_aload_0 hX dX7_about_90 ?_
    refine ag_X7_flues hX fl_X7_26 dX7_about_91 ?_
    refine ag_X2_hand hX fl_X7_152 dX7_about_94 ?_
    refine aw_iload_1 hX dX7_about_97 ?_
    refine aw_iald hX dX7_about_98 rfl (by decide) (by omega) ?_
    refine aw_finI (hR _ _ dX7_about_99) ?_ ?_
    · rfl
    · rfl
  · cases c_8
set_option maxHeartbeats 4000000 in
set_option maxRecDepth 100000 in
theorem m_X7_about_5 (d : Nat) (G : GT) (S : St) (i : Nat) (hi : i < S.1 7) (h7 : S.1 7 ≤ 12)  : rX7_about G (d + 2) [.ref (gad G 0), .int (nI i), .int (nI 5)] S (some (.int (S.2.1 28 i))) S := by
  refine runs_I (d := (d + 1)) (by decide) (Nat.le_of_ble_eq_true rfl) (fun X (hX : XC X G (d + 1) RX7 cX7_about 3) hR => ?_)
  show AW X G 0 [.ref (gad G 0), .int (nI i), .int (nI 5)] [] S
  refine aw_aload_0 hX dX7_about_0 ?_
  refine ag_X7_flues hX fl_X7_26 dX7_about_1 ?_
  refine aw_iload_1 hX dX7_about_4 ?_
  refine cv_X2_has hX ml_X7_129 dX7_about_5 (m_X2_has_b _ G S _ true h7 (hasB_t hi (by omega))) (Nat.le_of_ble_eq_true rfl) ?_
  first | with_reducible refine aw_ifneB hX (tgt := 13) dX7_about_8 (by decide) (fun c_8 => ?_) (fun c_8 => ?_) | refine aw_ifne hX (tgt := 13) dX7_about_8 (by decide) (fun c_8 => ?_) (fun c_8 => ?_)
  · skip
    refine aw_iload_2 hX dX7_about_13 ?_
    refine aw_tabIn hX (x := nI 5) (off := 96) (tgt := 110) dX7_about_14 (by decide) (by decide) (by decide) (by decide) ?_
    refine aw_aload_0 hX dX7_about_110 ?_
    refine ag_X7_flues hX fl_X7_26 dX7_about_111 ?_
    refine ag_X2_refusals hX fl_X7_158 dX7_about_114 ?_
    refine aw_iload_1 hX dX7_about_117 ?_
    refine aw_iald hX dX7_about_118 rfl (by decide) (by omega) ?_
    refine aw_finI (hR _ _ dX7_about_119) ?_ ?_
    · rfl
    · rfl
  · cases c_8
set_option maxHeartbeats 4000000 in
set_option maxRecDepth 100000 in
theorem m_X7_about_4 (d : Nat) (G : GT) (S : St) (i : Nat) (hi : i < S.1 7) (h7 : S.1 7 ≤ 12) (hs : S.1 10 ≤ 100) : rX7_about G (d + 3) [.ref (gad G 0), .int (nI i), .int (nI 4)] S (some (.int (swX S i (nI (S.1 0))))) S := by
  refine runs_I (d := (d + 2)) (by decide) (Nat.le_of_ble_eq_true rfl) (fun X (hX : XC X G (d + 2) RX7 cX7_about 3) hR => ?_)
  show AW X G 0 [.ref (gad G 0), .int (nI i), .int (nI 4)] [] S
  refine aw_aload_0 hX dX7_about_0 ?_
  refine ag_X7_flues hX fl_X7_26 dX7_about_1 ?_
  refine aw_iload_1 hX dX7_about_4 ?_
  refine cv_X2_has hX ml_X7_129 dX7_about_5 (m_X2_has_b _ G S _ true h7 (hasB_t hi (by omega))) (Nat.le_of_ble_eq_true rfl) ?_
  first | with_reducible refine aw_ifneB hX (tgt := 13) dX7_about_8 (by decide) (fun c_8 => ?_) (fun c_8 => ?_) | refine aw_ifne hX (tgt := 13) dX7_about_8 (by decide) (fun c_8 => ?_) (fun c_8 => ?_)
  · skip
    refine aw_iload_2 hX dX7_about_13 ?_
    refine aw_tabIn hX (x := nI 4) (off := 86) (tgt := 100) dX7_about_14 (by decide) (by decide) (by decide) (by decide) ?_
    refine aw_aload_0 hX dX7_about_100 ?_
    refine aw_iload_1 hX dX7_about_101 ?_
    refine aw_aload_0 hX dX7_about_102 ?_
    refine ag_X7_today hX fl_X7_62 dX7_about_103 ?_
    refine cv_X7_sweptBy hX ml_X7_155 dX7_about_106 (m_X7_sweptBy _ G S i _ (by omega) hs) (Nat.le_of_ble_eq_true rfl) ?_
    refine aw_finI (hR _ _ dX7_about_109) ?_ ?_
    · rfl
    · rfl
  · cases c_8
set_option maxHeartbeats 4000000 in
set_option maxRecDepth 100000 in
theorem m_X7_about_6 (d : Nat) (G : GT) (S : St) (i : Nat) (hi : i < S.1 7) (h7 : S.1 7 ≤ 12) (h8 : S.1 8 ≤ 30) : rX7_about G (d + 3) [.ref (gad G 0), .int (nI i), .int (nI 6)] S (some (.int (bI (foX S i)))) S := by
  refine runs_I (d := (d + 2)) (by decide) (Nat.le_of_ble_eq_true rfl) (fun X (hX : XC X G (d + 2) RX7 cX7_about 3) hR => ?_)
  show AW X G 0 [.ref (gad G 0), .int (nI i), .int (nI 6)] [] S
  refine aw_aload_0 hX dX7_about_0 ?_
  refine ag_X7_flues hX fl_X7_26 dX7_about_1 ?_
  refine aw_iload_1 hX dX7_about_4 ?_
  refine cv_X2_has hX ml_X7_129 dX7_about_5 (m_X2_has_b _ G S _ true h7 (hasB_t hi (by omega))) (Nat.le_of_ble_eq_true rfl) ?_
  first | with_reducible refine aw_ifneB hX (tgt := 13) dX7_about_8 (by decide) (fun c_8 => ?_) (fun c_8 => ?_) | refine aw_ifne hX (tgt := 13) dX7_about_8 (by decide) (fun c_8 => ?_) (fun c_8 => ?_)
  · skip
    refine aw_iload_2 hX dX7_about_13 ?_
    refine aw_tabIn hX (x := nI 6) (off := 106) (tgt := 120) dX7_about_14 (by decide) (by decide) (by decide) (by decide) ?_
    refine aw_aload_0 hX dX7_about_120 ?_
    refine aw_iload_1 hX dX7_about_121 ?_
    refine cv_X7_isForbidden hX ml_X7_161 dX7_about_122 (m_X7_isForbidden _ G S i (by omega) h8) (Nat.le_of_ble_eq_true rfl) ?_
    refine cs_X7_asNumber hX ml_X7_164 dX7_about_125 (m_X7_asNumber _ G S _) (Nat.le_of_ble_eq_true rfl) ?_
    refine aw_finI (hR _ _ dX7_about_128) ?_ ?_
    · rfl
    · rfl
  · cases c_8
set_option maxHeartbeats 4000000 in
set_option maxRecDepth 100000 in
theorem m_X7_about_7 (d : Nat) (G : GT) (S : St) (i : Nat) (hi : i < S.1 7) (h7 : S.1 7 ≤ 12) (hh : HdOK (S.1 7) (S.2.1 26)) : rX7_about G (d + 4) [.ref (gad G 0), .int (nI i), .int (nI 7)] S (some (.int (doX S i))) S := by
  refine runs_I (d := (d + 3)) (by decide) (Nat.le_of_ble_eq_true rfl) (fun X (hX : XC X G (d + 3) RX7 cX7_about 3) hR => ?_)
  show AW X G 0 [.ref (gad G 0), .int (nI i), .int (nI 7)] [] S
  refine aw_aload_0 hX dX7_about_0 ?_
  refine ag_X7_flues hX fl_X7_26 dX7_about_1 ?_
  refine aw_iload_1 hX dX7_about_4 ?_
  refine cv_X2_has hX ml_X7_129 dX7_about_5 (m_X2_has_b _ G S _ true h7 (hasB_t hi (by omega))) (Nat.le_of_ble_eq_true rfl) ?_
  first | with_reducible refine aw_ifneB hX (tgt := 13) dX7_about_8 (by decide) (fun c_8 => ?_) (fun c_8 => ?_) | refine aw_ifne hX (tgt := 13) dX7_about_8 (by decide) (fun c_8 => ?_) (fun c_8 => ?_)
  · skip
    refine aw_iload_2 hX dX7_about_13 ?_
    refine aw_tabIn hX (x := nI 7) (off := 115) (tgt := 129) dX7_about_14 (by decide) (by decide) (by decide) (by decide) ?_
    refine aw_aload_0 hX dX7_about_129 ?_
    refine aw_iload_1 hX dX7_about_130 ?_
    refine cv_X7_doerOf hX ml_X7_168 dX7_about_131 (m_X7_doerOf _ G S i hi h7 hh) (Nat.le_of_ble_eq_true rfl) ?_
    refine aw_finI (hR _ _ dX7_about_134) ?_ ?_
    · rfl
    · rfl
  · cases c_8
set_option maxHeartbeats 4000000 in
set_option maxRecDepth 100000 in
theorem m_X7_due_bad (d : Nat) (G : GT) (S : St) (f : Int32) (h7 : S.1 7 ≤ 12) (h : hasB f (S.1 7) = false) : rX7_due G (d + 2) [.ref (gad G 0), .int f] S (some (.int (-1))) S := by
  refine runs_I (d := (d + 1)) (by decide) (Nat.le_of_ble_eq_true rfl) (fun X (hX : XC X G (d + 1) RX7 cX7_due 2) hR => ?_)
  show AW X G 0 [.ref (gad G 0), .int f] [] S
  refine aw_aload_0 hX dX7_due_0 ?_
  refine ag_X7_flues hX fl_X7_26 dX7_due_1 ?_
  refine aw_iload_1 hX dX7_due_4 ?_
  refine cv_X2_has hX ml_X7_129 dX7_due_5 (m_X2_has_b _ G S _ false h7 h) (Nat.le_of_ble_eq_true rfl) ?_
  first | with_reducible refine aw_ifneB hX (tgt := 13) dX7_due_8 (by decide) (fun c_8 => ?_) (fun c_8 => ?_) | refine aw_ifne hX (tgt := 13) dX7_due_8 (by decide) (fun c_8 => ?_) (fun c_8 => ?_)
  · cases c_8
  · skip
    refine aw_iconst hX (v := (-1)) (by decide) dX7_due_11 ?_
    refine aw_finI (hR _ _ dX7_due_12) ?_ ?_
    · rfl
    · rfl
set_option maxHeartbeats 4000000 in
set_option maxRecDepth 100000 in
theorem m_X7_due_ok (d : Nat) (G : GT) (S : St) (i : Nat) (hi : i < S.1 7) (h7 : S.1 7 ≤ 12) (w : Nat) (hs : S.1 10 ≤ 100) (hb : BkOK S) (hw : swX S i (nI (S.1 0)) = nI w) (hw5 : w ≤ 500) : rX7_due G (d + 5) [.ref (gad G 0), .int (nI i)] S (some (.int (nI (duX S (S.2.1 20 i) w)))) S := by
  refine runs_I (d := (d + 4)) (by decide) (Nat.le_of_ble_eq_true rfl) (fun X (hX : XC X G (d + 4) RX7 cX7_due 2) hR => ?_)
  show AW X G 0 [.ref (gad G 0), .int (nI i)] [] S
  refine aw_aload_0 hX dX7_due_0 ?_
  refine ag_X7_flues hX fl_X7_26 dX7_due_1 ?_
  refine aw_iload_1 hX dX7_due_4 ?_
  refine cv_X2_has hX ml_X7_129 dX7_due_5 (m_X2_has_b _ G S _ true h7 (hasB_t hi (by omega))) (Nat.le_of_ble_eq_true rfl) ?_
  first | with_reducible refine aw_ifneB hX (tgt := 13) dX7_due_8 (by decide) (fun c_8 => ?_) (fun c_8 => ?_) | refine aw_ifne hX (tgt := 13) dX7_due_8 (by decide) (fun c_8 => ?_) (fun c_8 => ?_)
  · skip
    refine aw_aload_0 hX dX7_due_13 ?_
    refine aw_iload_1 hX dX7_due_14 ?_
    refine cv_X7_dueOf hX ml_X7_171 dX7_due_15 (m_X7_dueOf _ G S i w (by omega) hs hb hw hw5) (Nat.le_of_ble_eq_true rfl) ?_
    refine aw_finI (hR _ _ dX7_due_18) ?_ ?_
    · rfl
    · rfl
  · cases c_8
def SwOK (S : St) : Prop := ∀ i, i < S.1 7 → swX S i (nI (S.1 0)) = nI (tn (swX S i (nI (S.1 0)))) ∧ tn (swX S i (nI (S.1 0))) ≤ 500
def beX (S : St) : Nat → Nat
  | 0 => 0
  | n + 1 => if foX S n = false ∧ ¬ nI (S.1 0) ≤ nI (duX S (S.2.1 20 n) (tn (swX S n (nI (S.1 0))))) then beX S n + 1 else beX S n
set_option maxHeartbeats 4000000 in
set_option maxRecDepth 100000 in
theorem m_X7_beyond (d : Nat) (G : GT) (S : St) (h7 : S.1 7 ≤ 12) (h8 : S.1 8 ≤ 30) (hs : S.1 10 ≤ 100) (hb : BkOK S) (hw : SwOK S) : rX7_beyond G (d + 5) [.ref (gad G 0)] S (some (.int (nI (beX S (S.1 7))))) S := by
  refine runs_I (d := (d + 4)) (by decide) (Nat.le_of_ble_eq_true rfl) (fun X (hX : XC X G (d + 4) RX7 cX7_beyond 3) hR => ?_)
  show AW X G 0 [.ref (gad G 0), .null, .null] [] S
  have loop : ∀ n i : Nat, i + n = S.1 7 → ∀ v : Nat, v = beX S i → AW X G 4 [.ref (gad G 0), .int (nI v), .int (nI i)] [] S := by
    intro n
    induction n with
    | zero =>
      intro i hi v hp
      refine aw_iload_2 hX dX7_beyond_4 ?_
      refine aw_aload_0 hX dX7_beyond_5 ?_
      refine ag_X7_flues hX fl_X7_26 dX7_beyond_6 ?_
      refine ag_X2_size hX fl_X7_174 dX7_beyond_9 ?_
      first | with_reducible refine aw_icmpgeN hX (tgt := 44) dX7_beyond_12 (by decide) (by omega) (by omega) (fun c_12 => ?_) (fun c_12 => ?_) | refine aw_jge hX (tgt := 44) dX7_beyond_12 (by decide) (fun c_12 => ?_) (fun c_12 => ?_)
      · skip
        refine aw_iload_1 hX dX7_beyond_44 ?_
        refine aw_finI (hR _ _ dX7_beyond_45) ?_ ?_
        · rw [show S.1 7 = i by omega, ← hp]
        · rfl
      · exact absurd c_12 (by omega)
    | succ n ih =>
      intro i hi v hp
      refine aw_iload_2 hX dX7_beyond_4 ?_
      refine aw_aload_0 hX dX7_beyond_5 ?_
      refine ag_X7_flues hX fl_X7_26 dX7_beyond_6 ?_
      refine ag_X2_size hX fl_X7_174 dX7_beyond_9 ?_
      first | with_reducible refine aw_icmpgeN hX (tgt := 44) dX7_beyond_12 (by decide) (by omega) (by omega) (fun c_12 => ?_) (fun c_12 => ?_) | refine aw_jge hX (tgt := 44) dX7_beyond_12 (by decide) (fun c_12 => ?_) (fun c_12 => ?_)
      · exact absurd c_12 (by omega)
      · skip
        refine aw_aload_0 hX dX7_beyond_15 ?_
        refine aw_iload_2 hX dX7_beyond_16 ?_
        refine cv_X7_isForbidden hX ml_X7_161 dX7_beyond_17 (m_X7_isForbidden _ G S i (by omega) h8) (Nat.le_of_ble_eq_true rfl) ?_
        first | with_reducible refine aw_ifneB hX (tgt := 38) dX7_beyond_20 (by decide) (fun c_20 => ?_) (fun c_20 => ?_) | refine aw_ifne hX (tgt := 38) dX7_beyond_20 (by decide) (fun c_20 => ?_) (fun c_20 => ?_)
        · skip
          first | with_reducible refine aw_iinc_2N hX rfl (by decide) dX7_beyond_38 ?_ | refine aw_iinc_2 hX rfl (by decide) dX7_beyond_38 ?_
          refine aw_goto hX (tgt := 4) dX7_beyond_41 (by decide) ?_
          exact ih (i + 1) (by omega) _ (by simp only [beX, ← hp]; simp [c_12, c_20])
        · skip
          refine aw_aload_0 hX dX7_beyond_23 ?_
          refine aw_iload_2 hX dX7_beyond_24 ?_
          refine aw_aload_0 hX dX7_beyond_25 ?_
          refine ag_X7_today hX fl_X7_62 dX7_beyond_26 ?_
          refine cv_X7_wasBeyond hX ml_X7_175 dX7_beyond_29 (m_X7_wasBeyond _ G S i _ _ (by omega) hs hb (hw i (by omega)).1 (hw i (by omega)).2) (Nat.le_of_ble_eq_true rfl) ?_
          first | with_reducible refine aw_ifeqB hX (tgt := 38) dX7_beyond_32 (by decide) (fun c_32 => ?_) (fun c_32 => ?_) | refine aw_ifeq hX (tgt := 38) dX7_beyond_32 (by decide) (fun c_32 => ?_) (fun c_32 => ?_)
          · simp only [Bool.not_eq_false', decide_eq_true_eq] at c_32
            first | with_reducible refine aw_iinc_2N hX rfl (by decide) dX7_beyond_38 ?_ | refine aw_iinc_2 hX rfl (by decide) dX7_beyond_38 ?_
            refine aw_goto hX (tgt := 4) dX7_beyond_41 (by decide) ?_
            exact ih (i + 1) (by omega) _ (by simp only [beX, ← hp]; simp [c_12, c_20, c_32])
          · simp only [Bool.not_eq_true', decide_eq_false_iff_not] at c_32
            first | with_reducible refine aw_iinc_1N hX rfl (by decide) dX7_beyond_35 ?_ | refine aw_iinc_1 hX rfl (by decide) dX7_beyond_35 ?_
            first | with_reducible refine aw_iinc_2N hX rfl (by decide) dX7_beyond_38 ?_ | refine aw_iinc_2 hX rfl (by decide) dX7_beyond_38 ?_
            refine aw_goto hX (tgt := 4) dX7_beyond_41 (by decide) ?_
            exact ih (i + 1) (by omega) _ (by simp only [beX, ← hp]; simp [c_12, c_20, c_32])
  refine aw_iconst hX (v := nI 0) (by decide) dX7_beyond_0 ?_
  refine aw_istore_1 hX rfl (by decide) dX7_beyond_1 ?_
  refine aw_iconst hX (v := nI 0) (by decide) dX7_beyond_2 ?_
  refine aw_istore_2 hX rfl (by decide) dX7_beyond_3 ?_
  exact loop (S.1 7) 0 (by omega) _ rfl
set_option maxHeartbeats 4000000 in
set_option maxRecDepth 100000 in
theorem m_X7_sweep_bad (d : Nat) (G : GT) (S : St) (f : Int32) (h7 : S.1 7 ≤ 12) (h : hasB f (S.1 7) = false) : rX7_sweep G (d + 2) [.ref (gad G 0), .int f] S (some (.int (-1))) S := by
  refine runs_I (d := (d + 1)) (by decide) (Nat.le_of_ble_eq_true rfl) (fun X (hX : XC X G (d + 1) RX7 cX7_sweep 4) hR => ?_)
  show AW X G 0 [.ref (gad G 0), .int f, .null, .null] [] S
  refine aw_aload_0 hX dX7_sweep_0 ?_
  refine ag_X7_flues hX fl_X7_26 dX7_sweep_1 ?_
  refine aw_iload_1 hX dX7_sweep_4 ?_
  refine cv_X2_has hX ml_X7_129 dX7_sweep_5 (m_X2_has_b _ G S _ false h7 h) (Nat.le_of_ble_eq_true rfl) ?_
  first | with_reducible refine aw_ifneB hX (tgt := 13) dX7_sweep_8 (by decide) (fun c_8 => ?_) (fun c_8 => ?_) | refine aw_ifne hX (tgt := 13) dX7_sweep_8 (by decide) (fun c_8 => ?_) (fun c_8 => ?_)
  · cases c_8
  · skip
    refine aw_iconst hX (v := (-1)) (by decide) dX7_sweep_11 ?_
    refine aw_finI (hR _ _ dX7_sweep_12) ?_ ?_
    · rfl
    · rfl
set_option maxHeartbeats 4000000 in
set_option maxRecDepth 100000 in
theorem m_X7_sweep_state (d : Nat) (G : GT) (S : St) (i : Nat) (hi : i < S.1 7) (h7 : S.1 7 ≤ 12) (h8 : S.1 8 ≤ 30) (hs : S.1 10 ≤ 100) (hh : HdOK (S.1 7) (S.2.1 26)) (h : foX S i = true ∨ doX S i = -9) : rX7_sweep G (d + 4) [.ref (gad G 0), .int (nI i)] S (some (.int (-2))) S := by
  refine runs_I (d := (d + 3)) (by decide) (Nat.le_of_ble_eq_true rfl) (fun X (hX : XC X G (d + 3) RX7 cX7_sweep 4) hR => ?_)
  show AW X G 0 [.ref (gad G 0), .int (nI i), .null, .null] [] S
  refine aw_aload_0 hX dX7_sweep_0 ?_
  refine ag_X7_flues hX fl_X7_26 dX7_sweep_1 ?_
  refine aw_iload_1 hX dX7_sweep_4 ?_
  refine cv_X2_has hX ml_X7_129 dX7_sweep_5 (m_X2_has_b _ G S _ true h7 (hasB_t hi (by omega))) (Nat.le_of_ble_eq_true rfl) ?_
  first | with_reducible refine aw_ifneB hX (tgt := 13) dX7_sweep_8 (by decide) (fun c_8 => ?_) (fun c_8 => ?_) | refine aw_ifne hX (tgt := 13) dX7_sweep_8 (by decide) (fun c_8 => ?_) (fun c_8 => ?_)
  · skip
    refine aw_aload_0 hX dX7_sweep_13 ?_
    refine aw_iload_1 hX dX7_sweep_14 ?_
    refine cv_X7_doerOf hX ml_X7_168 dX7_sweep_15 (m_X7_doerOf _ G S i hi h7 hh) (Nat.le_of_ble_eq_true rfl) ?_
    refine aw_istore_2 hX rfl (by decide) dX7_sweep_18 ?_
    refine aw_aload_0 hX dX7_sweep_19 ?_
    refine aw_iload_1 hX dX7_sweep_20 ?_
    refine cv_X7_isForbidden hX ml_X7_161 dX7_sweep_21 (m_X7_isForbidden _ G S i (by omega) h8) (Nat.le_of_ble_eq_true rfl) ?_
    first | with_reducible refine aw_ifneB hX (tgt := 33) dX7_sweep_24 (by decide) (fun c_24 => ?_) (fun c_24 => ?_) | refine aw_ifne hX (tgt := 33) dX7_sweep_24 (by decide) (fun c_24 => ?_) (fun c_24 => ?_)
    · skip
      refine aw_bipush hX (v := (-2)) (by decide) dX7_sweep_33 ?_
      refine aw_finI (hR _ _ dX7_sweep_35) ?_ ?_
      · rfl
      · rfl
    · skip
      refine aw_iload_2 hX dX7_sweep_27 ?_
      refine aw_bipush hX (v := (-9)) (by decide) dX7_sweep_28 ?_
      first | with_reducible refine aw_icmpneN hX (tgt := 36) dX7_sweep_30 (by decide) (by omega) (by omega) (fun c_30 => ?_) (fun c_30 => ?_) | refine aw_icmpne hX (tgt := 36) dX7_sweep_30 (by decide) (fun c_30 => ?_) (fun c_30 => ?_)
      · exact absurd h (by simp [c_8, c_24, c_30])
      · skip
        refine aw_bipush hX (v := (-2)) (by decide) dX7_sweep_33 ?_
        refine aw_finI (hR _ _ dX7_sweep_35) ?_ ?_
        · rfl
        · rfl
  · cases c_8
set_option maxHeartbeats 4000000 in
set_option maxRecDepth 100000 in
theorem m_X7_sweep_full (d : Nat) (G : GT) (S : St) (i : Nat) (hi : i < S.1 7) (h7 : S.1 7 ≤ 12) (h8 : S.1 8 ≤ 30) (hs : S.1 10 ≤ 100) (hh : HdOK (S.1 7) (S.2.1 26)) (hf : foX S i = false) (hd : ¬ doX S i = -9) (hl : S.1 10 = 100) : rX7_sweep G (d + 4) [.ref (gad G 0), .int (nI i)] S (some (.int (-3))) S := by
  refine runs_I (d := (d + 3)) (by decide) (Nat.le_of_ble_eq_true rfl) (fun X (hX : XC X G (d + 3) RX7 cX7_sweep 4) hR => ?_)
  show AW X G 0 [.ref (gad G 0), .int (nI i), .null, .null] [] S
  refine aw_aload_0 hX dX7_sweep_0 ?_
  refine ag_X7_flues hX fl_X7_26 dX7_sweep_1 ?_
  refine aw_iload_1 hX dX7_sweep_4 ?_
  refine cv_X2_has hX ml_X7_129 dX7_sweep_5 (m_X2_has_b _ G S _ true h7 (hasB_t hi (by omega))) (Nat.le_of_ble_eq_true rfl) ?_
  first | with_reducible refine aw_ifneB hX (tgt := 13) dX7_sweep_8 (by decide) (fun c_8 => ?_) (fun c_8 => ?_) | refine aw_ifne hX (tgt := 13) dX7_sweep_8 (by decide) (fun c_8 => ?_) (fun c_8 => ?_)
  · skip
    refine aw_aload_0 hX dX7_sweep_13 ?_
    refine aw_iload_1 hX dX7_sweep_14 ?_
    refine cv_X7_doerOf hX ml_X7_168 dX7_sweep_15 (m_X7_doerOf _ G S i hi h7 hh) (Nat.le_of_ble_eq_true rfl) ?_
    refine aw_istore_2 hX rfl (by decide) dX7_sweep_18 ?_
    refine aw_aload_0 hX dX7_sweep_19 ?_
    refine aw_iload_1 hX dX7_sweep_20 ?_
    refine cv_X7_isForbidden hX ml_X7_161 dX7_sweep_21 (m_X7_isForbidden _ G S i (by omega) h8) (Nat.le_of_ble_eq_true rfl) ?_
    first | with_reducible refine aw_ifneB hX (tgt := 33) dX7_sweep_24 (by decide) (fun c_24 => ?_) (fun c_24 => ?_) | refine aw_ifne hX (tgt := 33) dX7_sweep_24 (by decide) (fun c_24 => ?_) (fun c_24 => ?_)
    · rw [hf] at c_24; cases c_24
    · skip
      refine aw_iload_2 hX dX7_sweep_27 ?_
      refine aw_bipush hX (v := (-9)) (by decide) dX7_sweep_28 ?_
      first | with_reducible refine aw_icmpneN hX (tgt := 36) dX7_sweep_30 (by decide) (by omega) (by omega) (fun c_30 => ?_) (fun c_30 => ?_) | refine aw_icmpne hX (tgt := 36) dX7_sweep_30 (by decide) (fun c_30 => ?_) (fun c_30 => ?_)
      · skip
        refine aw_aload_0 hX dX7_sweep_36 ?_
        refine ag_X7_sweeps hX fl_X7_47 dX7_sweep_37 ?_
        refine cv_X5_isFull hX ml_X7_178 dX7_sweep_40 (m_X5_isFull _ G S hs) (Nat.le_of_ble_eq_true rfl) ?_
        first | with_reducible refine aw_ifeqB hX (tgt := 49) dX7_sweep_43 (by decide) (fun c_43 => ?_) (fun c_43 => ?_) | refine aw_ifeq hX (tgt := 49) dX7_sweep_43 (by decide) (fun c_43 => ?_) (fun c_43 => ?_)
        · exact absurd c_43 (by simp; omega)
        · skip
          refine aw_bipush hX (v := (-3)) (by decide) dX7_sweep_46 ?_
          refine aw_finI (hR _ _ dX7_sweep_48) ?_ ?_
          · rfl
          · rfl
      · exact absurd c_30 hd
  · cases c_8
set_option maxHeartbeats 4000000 in
set_option maxRecDepth 100000 in
theorem m_X7_sweep_ok (d : Nat) (G : GT) (S : St) (i : Nat) (hi : i < S.1 7) (h7 : S.1 7 ≤ 12) (h8 : S.1 8 ≤ 30) (hs : S.1 10 ≤ 100) (hh : HdOK (S.1 7) (S.2.1 26)) (hf : foX S i = false) (hd : ¬ doX S i = -9) (hl : S.1 10 < 100) : rX7_sweep G (d + 4) [.ref (gad G 0), .int (nI i)] S (some (.int ((S.2.1 21 i * nI (S.1 1))))) (sA (sN (sA (sA (sA (sA S 36 (S.1 10) (nI i)) 37 (S.1 10) (nI (S.1 0))) 38 (S.1 10) (doX S i)) 39 (S.1 10) (S.2.1 21 i * nI (S.1 1))) 10 (S.1 10 + 1)) 28 i (nI 0)) := by
  refine runs_I (d := (d + 3)) (by decide) (Nat.le_of_ble_eq_true rfl) (fun X (hX : XC X G (d + 3) RX7 cX7_sweep 4) hR => ?_)
  show AW X G 0 [.ref (gad G 0), .int (nI i), .null, .null] [] S
  refine aw_aload_0 hX dX7_sweep_0 ?_
  refine ag_X7_flues hX fl_X7_26 dX7_sweep_1 ?_
  refine aw_iload_1 hX dX7_sweep_4 ?_
  refine cv_X2_has hX ml_X7_129 dX7_sweep_5 (m_X2_has_b _ G S _ true h7 (hasB_t hi (by omega))) (Nat.le_of_ble_eq_true rfl) ?_
  first | with_reducible refine aw_ifneB hX (tgt := 13) dX7_sweep_8 (by decide) (fun c_8 => ?_) (fun c_8 => ?_) | refine aw_ifne hX (tgt := 13) dX7_sweep_8 (by decide) (fun c_8 => ?_) (fun c_8 => ?_)
  · skip
    refine aw_aload_0 hX dX7_sweep_13 ?_
    refine aw_iload_1 hX dX7_sweep_14 ?_
    refine cv_X7_doerOf hX ml_X7_168 dX7_sweep_15 (m_X7_doerOf _ G S i hi h7 hh) (Nat.le_of_ble_eq_true rfl) ?_
    refine aw_istore_2 hX rfl (by decide) dX7_sweep_18 ?_
    refine aw_aload_0 hX dX7_sweep_19 ?_
    refine aw_iload_1 hX dX7_sweep_20 ?_
    refine cv_X7_isForbidden hX ml_X7_161 dX7_sweep_21 (m_X7_isForbidden _ G S i (by omega) h8) (Nat.le_of_ble_eq_true rfl) ?_
    first | with_reducible refine aw_ifneB hX (tgt := 33) dX7_sweep_24 (by decide) (fun c_24 => ?_) (fun c_24 => ?_) | refine aw_ifne hX (tgt := 33) dX7_sweep_24 (by decide) (fun c_24 => ?_) (fun c_24 => ?_)
    · rw [hf] at c_24; cases c_24
    · skip
      refine aw_iload_2 hX dX7_sweep_27 ?_
      refine aw_bipush hX (v := (-9)) (by decide) dX7_sweep_28 ?_
      first | with_reducible refine aw_icmpneN hX (tgt := 36) dX7_sweep_30 (by decide) (by omega) (by omega) (fun c_30 => ?_) (fun c_30 => ?_) | refine aw_icmpne hX (tgt := 36) dX7_sweep_30 (by decide) (fun c_30 => ?_) (fun c_30 => ?_)
      · skip
        refine aw_aload_0 hX dX7_sweep_36 ?_
        refine ag_X7_sweeps hX fl_X7_47 dX7_sweep_37 ?_
        refine cv_X5_isFull hX ml_X7_178 dX7_sweep_40 (m_X5_isFull _ G S hs) (Nat.le_of_ble_eq_true rfl) ?_
        first | with_reducible refine aw_ifeqB hX (tgt := 49) dX7_sweep_43 (by decide) (fun c_43 => ?_) (fun c_43 => ?_) | refine aw_ifeq hX (tgt := 49) dX7_sweep_43 (by decide) (fun c_43 => ?_) (fun c_43 => ?_)
        · skip
          refine aw_aload_0 hX dX7_sweep_49 ?_
          refine ag_X7_flues hX fl_X7_26 dX7_sweep_50 ?_
          refine ag_X2_height hX fl_X7_149 dX7_sweep_53 ?_
          refine aw_iload_1 hX dX7_sweep_56 ?_
          refine aw_iald hX dX7_sweep_57 rfl (by decide) (by omega) ?_
          refine aw_aload_0 hX dX7_sweep_58 ?_
          refine ag_X7_feeRate hX fl_X7_66 dX7_sweep_59 ?_
          first | with_reducible refine aw_imulN hX dX7_sweep_62 ?_ | refine aw_imul hX dX7_sweep_62 ?_
          refine aw_istore_3 hX rfl (by decide) dX7_sweep_63 ?_
          refine aw_aload_0 hX dX7_sweep_64 ?_
          refine ag_X7_sweeps hX fl_X7_47 dX7_sweep_65 ?_
          refine aw_iload_1 hX dX7_sweep_68 ?_
          refine aw_aload_0 hX dX7_sweep_69 ?_
          refine ag_X7_today hX fl_X7_62 dX7_sweep_70 ?_
          refine aw_iload_2 hX dX7_sweep_73 ?_
          refine aw_iload_3 hX dX7_sweep_74 ?_
          refine cv_X5_add hX ml_X7_179 dX7_sweep_75 (m_X5_add _ G S _ _ _ _ hl) (Nat.le_of_ble_eq_true rfl) ?_
          refine aw_aload_0 hX dX7_sweep_78 ?_
          refine ag_X7_flues hX fl_X7_26 dX7_sweep_79 ?_
          try simp only [sN_N, sN_A, sN_L, sN_R, sA_N, sA_A, sA_L, sA_R, sL_N, sL_A, sL_L, sL_R, sR_N, sR_A, sR_L, sR_R, reduceIte]
          refine ag_X2_refusals hX fl_X7_158 dX7_sweep_82 ?_
          try simp only [sN_N, sN_A, sN_L, sN_R, sA_N, sA_A, sA_L, sA_R, sL_N, sL_A, sL_L, sL_R, sR_N, sR_A, sR_L, sR_R, reduceIte]
          refine aw_iload_1 hX dX7_sweep_85 ?_
          refine aw_iconst hX (v := nI 0) (by decide) dX7_sweep_86 ?_
          refine aw_iast hX dX7_sweep_87 rfl (fun _ => rfl) (by decide) (by omega) ?_
          refine aw_iload_3 hX dX7_sweep_88 ?_
          refine aw_finI (hR _ _ dX7_sweep_89) ?_ ?_
          · rfl
          · rfl
        · exact absurd c_43 (by simp; omega)
      · exact absurd c_30 hd
  · cases c_8
set_option maxHeartbeats 4000000 in
set_option maxRecDepth 100000 in
theorem m_X7_refuse_bad (d : Nat) (G : GT) (S : St) (f : Int32) (h7 : S.1 7 ≤ 12) (h : hasB f (S.1 7) = false) : rX7_refuse G (d + 2) [.ref (gad G 0), .int f] S (some (.int (-1))) S := by
  refine runs_I (d := (d + 1)) (by decide) (Nat.le_of_ble_eq_true rfl) (fun X (hX : XC X G (d + 1) RX7 cX7_refuse 2) hR => ?_)
  show AW X G 0 [.ref (gad G 0), .int f] [] S
  refine aw_aload_0 hX dX7_refuse_0 ?_
  refine ag_X7_flues hX fl_X7_26 dX7_refuse_1 ?_
  refine aw_iload_1 hX dX7_refuse_4 ?_
  refine cv_X2_has hX ml_X7_129 dX7_refuse_5 (m_X2_has_b _ G S _ false h7 h) (Nat.le_of_ble_eq_true rfl) ?_
  first | with_reducible refine aw_ifneB hX (tgt := 13) dX7_refuse_8 (by decide) (fun c_8 => ?_) (fun c_8 => ?_) | refine aw_ifne hX (tgt := 13) dX7_refuse_8 (by decide) (fun c_8 => ?_) (fun c_8 => ?_)
  · cases c_8
  · skip
    refine aw_iconst hX (v := (-1)) (by decide) dX7_refuse_11 ?_
    refine aw_finI (hR _ _ dX7_refuse_12) ?_ ?_
    · rfl
    · rfl
set_option maxHeartbeats 4000000 in
set_option maxRecDepth 100000 in
theorem m_X7_refuse_state (d : Nat) (G : GT) (S : St) (i : Nat) (hi : i < S.1 7) (h7 : S.1 7 ≤ 12) (h8 : S.1 8 ≤ 30) (h : foX S i = true) : rX7_refuse G (d + 3) [.ref (gad G 0), .int (nI i)] S (some (.int (-2))) S := by
  refine runs_I (d := (d + 2)) (by decide) (Nat.le_of_ble_eq_true rfl) (fun X (hX : XC X G (d + 2) RX7 cX7_refuse 2) hR => ?_)
  show AW X G 0 [.ref (gad G 0), .int (nI i)] [] S
  refine aw_aload_0 hX dX7_refuse_0 ?_
  refine ag_X7_flues hX fl_X7_26 dX7_refuse_1 ?_
  refine aw_iload_1 hX dX7_refuse_4 ?_
  refine cv_X2_has hX ml_X7_129 dX7_refuse_5 (m_X2_has_b _ G S _ true h7 (hasB_t hi (by omega))) (Nat.le_of_ble_eq_true rfl) ?_
  first | with_reducible refine aw_ifneB hX (tgt := 13) dX7_refuse_8 (by decide) (fun c_8 => ?_) (fun c_8 => ?_) | refine aw_ifne hX (tgt := 13) dX7_refuse_8 (by decide) (fun c_8 => ?_) (fun c_8 => ?_)
  · skip
    refine aw_aload_0 hX dX7_refuse_13 ?_
    refine aw_iload_1 hX dX7_refuse_14 ?_
    refine cv_X7_isForbidden hX ml_X7_161 dX7_refuse_15 (m_X7_isForbidden _ G S i (by omega) h8) (Nat.le_of_ble_eq_true rfl) ?_
    first | with_reducible refine aw_ifeqB hX (tgt := 24) dX7_refuse_18 (by decide) (fun c_18 => ?_) (fun c_18 => ?_) | refine aw_ifeq hX (tgt := 24) dX7_refuse_18 (by decide) (fun c_18 => ?_) (fun c_18 => ?_)
    · rw [h] at c_18; cases c_18
    · skip
      refine aw_bipush hX (v := (-2)) (by decide) dX7_refuse_21 ?_
      refine aw_finI (hR _ _ dX7_refuse_23) ?_ ?_
      · rfl
      · rfl
  · cases c_8
set_option maxHeartbeats 4000000 in
set_option maxRecDepth 100000 in
theorem m_X7_refuse_ok (d : Nat) (G : GT) (S : St) (i : Nat) (hi : i < S.1 7) (h7 : S.1 7 ≤ 12) (h8 : S.1 8 ≤ 30) (h : foX S i = false) : rX7_refuse G (d + 3) [.ref (gad G 0), .int (nI i)] S (some (.int (S.2.1 28 i + nI 1))) (sA S 28 i (S.2.1 28 i + nI 1)) := by
  refine runs_I (d := (d + 2)) (by decide) (Nat.le_of_ble_eq_true rfl) (fun X (hX : XC X G (d + 2) RX7 cX7_refuse 2) hR => ?_)
  show AW X G 0 [.ref (gad G 0), .int (nI i)] [] S
  refine aw_aload_0 hX dX7_refuse_0 ?_
  refine ag_X7_flues hX fl_X7_26 dX7_refuse_1 ?_
  refine aw_iload_1 hX dX7_refuse_4 ?_
  refine cv_X2_has hX ml_X7_129 dX7_refuse_5 (m_X2_has_b _ G S _ true h7 (hasB_t hi (by omega))) (Nat.le_of_ble_eq_true rfl) ?_
  first | with_reducible refine aw_ifneB hX (tgt := 13) dX7_refuse_8 (by decide) (fun c_8 => ?_) (fun c_8 => ?_) | refine aw_ifne hX (tgt := 13) dX7_refuse_8 (by decide) (fun c_8 => ?_) (fun c_8 => ?_)
  · skip
    refine aw_aload_0 hX dX7_refuse_13 ?_
    refine aw_iload_1 hX dX7_refuse_14 ?_
    refine cv_X7_isForbidden hX ml_X7_161 dX7_refuse_15 (m_X7_isForbidden _ G S i (by omega) h8) (Nat.le_of_ble_eq_true rfl) ?_
    first | with_reducible refine aw_ifeqB hX (tgt := 24) dX7_refuse_18 (by decide) (fun c_18 => ?_) (fun c_18 => ?_) | refine aw_ifeq hX (tgt := 24) dX7_refuse_18 (by decide) (fun c_18 => ?_) (fun c_18 => ?_)
    · skip
      refine aw_aload_0 hX dX7_refuse_24 ?_
      refine ag_X7_flues hX fl_X7_26 dX7_refuse_25 ?_
      refine ag_X2_refusals hX fl_X7_158 dX7_refuse_28 ?_
      refine aw_iload_1 hX dX7_refuse_31 ?_
      refine aw_dup2 hX rfl rfl dX7_refuse_32 ?_
      refine aw_iald hX dX7_refuse_33 rfl (by decide) (by omega) ?_
      refine aw_iconst hX (v := nI 1) (by decide) dX7_refuse_34 ?_
      first | with_reducible refine aw_iaddN hX dX7_refuse_35 ?_ | refine aw_iadd hX dX7_refuse_35 ?_
      refine aw_iast hX dX7_refuse_36 rfl (fun _ => rfl) (by decide) (by omega) ?_
      refine aw_aload_0 hX dX7_refuse_37 ?_
      refine ag_X7_flues hX fl_X7_26 dX7_refuse_38 ?_
      try simp only [sN_N, sN_A, sN_L, sN_R, sA_N, sA_A, sA_L, sA_R, sL_N, sL_A, sL_L, sL_R, sR_N, sR_A, sR_L, sR_R, reduceIte]
      refine ag_X2_refusals hX fl_X7_158 dX7_refuse_41 ?_
      try simp only [sN_N, sN_A, sN_L, sN_R, sA_N, sA_A, sA_L, sA_R, sL_N, sL_A, sL_L, sL_R, sR_N, sR_A, sR_L, sR_R, reduceIte]
      refine aw_iload_1 hX dX7_refuse_44 ?_
      refine aw_iald hX dX7_refuse_45 rfl (by decide) (by omega) ?_
      try simp only [sN_N, sN_A, sN_L, sN_R, sA_N, sA_A, sA_L, sA_R, sL_N, sL_A, sL_L, sL_R, sR_N, sR_A, sR_L, sR_R, reduceIte]
      refine aw_finI (hR _ _ dX7_refuse_46) ?_ ?_
      · exact upd_s
      · rfl
    · rw [h] at c_18; cases c_18
  · cases c_8
set_option maxHeartbeats 4000000 in
set_option maxRecDepth 100000 in
theorem m_X7_look_bad (d : Nat) (G : GT) (S : St) (f dy : Int32) (w : Int32) (h7 : S.1 7 ≤ 12) (h : (hasB f (S.1 7) && inR dy (nI 0) (nI (S.1 0))) = false) : rX7_look G (d + 2) [.ref (gad G 0), .int f, .int dy, .int w] S (some (.int (-1))) S := by
  refine runs_I (d := (d + 1)) (by decide) (Nat.le_of_ble_eq_true rfl) (fun X (hX : XC X G (d + 1) RX7 cX7_look 4) hR => ?_)
  show AW X G 0 [.ref (gad G 0), .int f, .int dy, .int w] [] S
  refine aw_aload_0 hX dX7_look_0 ?_
  refine ag_X7_flues hX fl_X7_26 dX7_look_1 ?_
  refine aw_iload_1 hX dX7_look_4 ?_
  refine cv_X2_has hX ml_X7_129 dX7_look_5 (m_X2_has_b _ G S _ _ h7 rfl) (Nat.le_of_ble_eq_true rfl) ?_
  first | with_reducible refine aw_ifeqB hX (tgt := 23) dX7_look_8 (by decide) (fun c_8 => ?_) (fun c_8 => ?_) | refine aw_ifeq hX (tgt := 23) dX7_look_8 (by decide) (fun c_8 => ?_) (fun c_8 => ?_)
  · skip
    refine aw_iconst hX (v := (-1)) (by decide) dX7_look_23 ?_
    refine aw_finI (hR _ _ dX7_look_24) ?_ ?_
    · rfl
    · rfl
  · skip
    refine aw_iload_2 hX dX7_look_11 ?_
    refine aw_iconst hX (v := nI 0) (by decide) dX7_look_12 ?_
    refine aw_aload_0 hX dX7_look_13 ?_
    refine ag_X7_today hX fl_X7_62 dX7_look_14 ?_
    refine cs_X7_within hX ml_X7_73 dX7_look_17 (m_X7_within _ G S _ _ _) (Nat.le_of_ble_eq_true rfl) ?_
    first | with_reducible refine aw_ifneB hX (tgt := 25) dX7_look_20 (by decide) (fun c_20 => ?_) (fun c_20 => ?_) | refine aw_ifne hX (tgt := 25) dX7_look_20 (by decide) (fun c_20 => ?_) (fun c_20 => ?_)
    · simp [c_8, c_20] at h
    · skip
      refine aw_iconst hX (v := (-1)) (by decide) dX7_look_23 ?_
      refine aw_finI (hR _ _ dX7_look_24) ?_ ?_
      · rfl
      · rfl
set_option maxHeartbeats 4000000 in
set_option maxRecDepth 100000 in
theorem m_X7_known_bad (d : Nat) (G : GT) (S : St) (f dy : Int32) (h7 : S.1 7 ≤ 12) (h : (hasB f (S.1 7) && inR dy (nI 0) (nI (S.1 0))) = false) : rX7_known G (d + 2) [.ref (gad G 0), .int f, .int dy] S (some (.int (-1))) S := by
  refine runs_I (d := (d + 1)) (by decide) (Nat.le_of_ble_eq_true rfl) (fun X (hX : XC X G (d + 1) RX7 cX7_known 3) hR => ?_)
  show AW X G 0 [.ref (gad G 0), .int f, .int dy] [] S
  refine aw_aload_0 hX dX7_known_0 ?_
  refine ag_X7_flues hX fl_X7_26 dX7_known_1 ?_
  refine aw_iload_1 hX dX7_known_4 ?_
  refine cv_X2_has hX ml_X7_129 dX7_known_5 (m_X2_has_b _ G S _ _ h7 rfl) (Nat.le_of_ble_eq_true rfl) ?_
  first | with_reducible refine aw_ifeqB hX (tgt := 23) dX7_known_8 (by decide) (fun c_8 => ?_) (fun c_8 => ?_) | refine aw_ifeq hX (tgt := 23) dX7_known_8 (by decide) (fun c_8 => ?_) (fun c_8 => ?_)
  · skip
    refine aw_iconst hX (v := (-1)) (by decide) dX7_known_23 ?_
    refine aw_finI (hR _ _ dX7_known_24) ?_ ?_
    · rfl
    · rfl
  · skip
    refine aw_iload_2 hX dX7_known_11 ?_
    refine aw_iconst hX (v := nI 0) (by decide) dX7_known_12 ?_
    refine aw_aload_0 hX dX7_known_13 ?_
    refine ag_X7_today hX fl_X7_62 dX7_known_14 ?_
    refine cs_X7_within hX ml_X7_73 dX7_known_17 (m_X7_within _ G S _ _ _) (Nat.le_of_ble_eq_true rfl) ?_
    first | with_reducible refine aw_ifneB hX (tgt := 25) dX7_known_20 (by decide) (fun c_20 => ?_) (fun c_20 => ?_) | refine aw_ifne hX (tgt := 25) dX7_known_20 (by decide) (fun c_20 => ?_) (fun c_20 => ?_)
    · simp [c_8, c_20] at h
    · skip
      refine aw_iconst hX (v := (-1)) (by decide) dX7_known_23 ?_
      refine aw_finI (hR _ _ dX7_known_24) ?_ ?_
      · rfl
      · rfl
set_option maxHeartbeats 4000000 in
set_option maxRecDepth 100000 in
theorem m_X7_fire_bad (d : Nat) (G : GT) (S : St) (f dy : Int32) (h7 : S.1 7 ≤ 12) (h : (hasB f (S.1 7) && inR dy (nI 0) (nI (S.1 0))) = false) : rX7_fire G (d + 2) [.ref (gad G 0), .int f, .int dy] S (some (.int (-1))) S := by
  refine runs_I (d := (d + 1)) (by decide) (Nat.le_of_ble_eq_true rfl) (fun X (hX : XC X G (d + 1) RX7 cX7_fire 3) hR => ?_)
  show AW X G 0 [.ref (gad G 0), .int f, .int dy] [] S
  refine aw_aload_0 hX dX7_fire_0 ?_
  refine ag_X7_flues hX fl_X7_26 dX7_fire_1 ?_
  refine aw_iload_1 hX dX7_fire_4 ?_
  refine cv_X2_has hX ml_X7_129 dX7_fire_5 (m_X2_has_b _ G S _ _ h7 rfl) (Nat.le_of_ble_eq_true rfl) ?_
  first | with_reducible refine aw_ifeqB hX (tgt := 23) dX7_fire_8 (by decide) (fun c_8 => ?_) (fun c_8 => ?_) | refine aw_ifeq hX (tgt := 23) dX7_fire_8 (by decide) (fun c_8 => ?_) (fun c_8 => ?_)
  · skip
    refine aw_iconst hX (v := (-1)) (by decide) dX7_fire_23 ?_
    refine aw_finI (hR _ _ dX7_fire_24) ?_ ?_
    · rfl
    · rfl
  · skip
    refine aw_iload_2 hX dX7_fire_11 ?_
    refine aw_iconst hX (v := nI 0) (by decide) dX7_fire_12 ?_
    refine aw_aload_0 hX dX7_fire_13 ?_
    refine ag_X7_today hX fl_X7_62 dX7_fire_14 ?_
    refine cs_X7_within hX ml_X7_73 dX7_fire_17 (m_X7_within _ G S _ _ _) (Nat.le_of_ble_eq_true rfl) ?_
    first | with_reducible refine aw_ifneB hX (tgt := 25) dX7_fire_20 (by decide) (fun c_20 => ?_) (fun c_20 => ?_) | refine aw_ifne hX (tgt := 25) dX7_fire_20 (by decide) (fun c_20 => ?_) (fun c_20 => ?_)
    · simp [c_8, c_20] at h
    · skip
      refine aw_iconst hX (v := (-1)) (by decide) dX7_fire_23 ?_
      refine aw_finI (hR _ _ dX7_fire_24) ?_ ?_
      · rfl
      · rfl
set_option maxHeartbeats 4000000 in
set_option maxRecDepth 100000 in
theorem m_X7_known_ok (d : Nat) (G : GT) (S : St) (i : Nat) (hi : i < S.1 7) (h7 : S.1 7 ≤ 12) (dy : Int32) (hdy : inR dy (nI 0) (nI (S.1 0)) = true) (h8 : S.1 8 ≤ 30) : rX7_known G (d + 2) [.ref (gad G 0), .int (nI i), .int dy] S (some (.int (knX S (nI i) dy))) S := by
  refine runs_I (d := (d + 1)) (by decide) (Nat.le_of_ble_eq_true rfl) (fun X (hX : XC X G (d + 1) RX7 cX7_known 3) hR => ?_)
  show AW X G 0 [.ref (gad G 0), .int (nI i), .int dy] [] S
  refine aw_aload_0 hX dX7_known_0 ?_
  refine ag_X7_flues hX fl_X7_26 dX7_known_1 ?_
  refine aw_iload_1 hX dX7_known_4 ?_
  refine cv_X2_has hX ml_X7_129 dX7_known_5 (m_X2_has_b _ G S _ true h7 (hasB_t hi (by omega))) (Nat.le_of_ble_eq_true rfl) ?_
  first | with_reducible refine aw_ifeqB hX (tgt := 23) dX7_known_8 (by decide) (fun c_8 => ?_) (fun c_8 => ?_) | refine aw_ifeq hX (tgt := 23) dX7_known_8 (by decide) (fun c_8 => ?_) (fun c_8 => ?_)
  · cases c_8
  · skip
    refine aw_iload_2 hX dX7_known_11 ?_
    refine aw_iconst hX (v := nI 0) (by decide) dX7_known_12 ?_
    refine aw_aload_0 hX dX7_known_13 ?_
    refine ag_X7_today hX fl_X7_62 dX7_known_14 ?_
    refine cs_X7_within hX ml_X7_73 dX7_known_17 (m_X7_within_b _ G S _ _ _ true hdy) (Nat.le_of_ble_eq_true rfl) ?_
    first | with_reducible refine aw_ifneB hX (tgt := 25) dX7_known_20 (by decide) (fun c_20 => ?_) (fun c_20 => ?_) | refine aw_ifne hX (tgt := 25) dX7_known_20 (by decide) (fun c_20 => ?_) (fun c_20 => ?_)
    · skip
      refine aw_aload_0 hX dX7_known_25 ?_
      refine ag_X7_looks hX fl_X7_33 dX7_known_26 ?_
      refine aw_iload_1 hX dX7_known_29 ?_
      refine aw_iload_2 hX dX7_known_30 ?_
      refine cv_X4_asKnown hX ml_X7_188 dX7_known_31 (m_X4_asKnown _ G S _ _ h8) (Nat.le_of_ble_eq_true rfl) ?_
      refine aw_finI (hR _ _ dX7_known_34) ?_ ?_
      · rfl
      · rfl
    · cases c_20
set_option maxHeartbeats 4000000 in
set_option maxRecDepth 100000 in
theorem m_X7_look_state (d : Nat) (G : GT) (S : St) (i : Nat) (hi : i < S.1 7) (h7 : S.1 7 ≤ 12) (dy : Int32) (hdy : inR dy (nI 0) (nI (S.1 0)) = true) (b : Bool) (h : ¬ S.2.1 27 i ≤ dy) : rX7_look G (d + 2) [.ref (gad G 0), .int (nI i), .int dy, .int (bI b)] S (some (.int (-2))) S := by
  refine runs_I (d := (d + 1)) (by decide) (Nat.le_of_ble_eq_true rfl) (fun X (hX : XC X G (d + 1) RX7 cX7_look 4) hR => ?_)
  show AW X G 0 [.ref (gad G 0), .int (nI i), .int dy, .int (bI b)] [] S
  refine aw_aload_0 hX dX7_look_0 ?_
  refine ag_X7_flues hX fl_X7_26 dX7_look_1 ?_
  refine aw_iload_1 hX dX7_look_4 ?_
  refine cv_X2_has hX ml_X7_129 dX7_look_5 (m_X2_has_b _ G S _ true h7 (hasB_t hi (by omega))) (Nat.le_of_ble_eq_true rfl) ?_
  first | with_reducible refine aw_ifeqB hX (tgt := 23) dX7_look_8 (by decide) (fun c_8 => ?_) (fun c_8 => ?_) | refine aw_ifeq hX (tgt := 23) dX7_look_8 (by decide) (fun c_8 => ?_) (fun c_8 => ?_)
  · cases c_8
  · skip
    refine aw_iload_2 hX dX7_look_11 ?_
    refine aw_iconst hX (v := nI 0) (by decide) dX7_look_12 ?_
    refine aw_aload_0 hX dX7_look_13 ?_
    refine ag_X7_today hX fl_X7_62 dX7_look_14 ?_
    refine cs_X7_within hX ml_X7_73 dX7_look_17 (m_X7_within_b _ G S _ _ _ true hdy) (Nat.le_of_ble_eq_true rfl) ?_
    first | with_reducible refine aw_ifneB hX (tgt := 25) dX7_look_20 (by decide) (fun c_20 => ?_) (fun c_20 => ?_) | refine aw_ifne hX (tgt := 25) dX7_look_20 (by decide) (fun c_20 => ?_) (fun c_20 => ?_)
    · skip
      refine aw_aload_0 hX dX7_look_25 ?_
      refine ag_X7_flues hX fl_X7_26 dX7_look_26 ?_
      refine ag_X2_came hX fl_X7_181 dX7_look_29 ?_
      refine aw_iload_1 hX dX7_look_32 ?_
      refine aw_iald hX dX7_look_33 rfl (by decide) (by omega) ?_
      refine aw_iload_2 hX dX7_look_34 ?_
      first | with_reducible refine aw_icmpleN hX (tgt := 41) dX7_look_35 (by decide) (by omega) (by omega) (fun c_35 => ?_) (fun c_35 => ?_) | refine aw_jle hX (tgt := 41) dX7_look_35 (by decide) (fun c_35 => ?_) (fun c_35 => ?_)
      · exact absurd c_35 h
      · skip
        refine aw_bipush hX (v := (-2)) (by decide) dX7_look_38 ?_
        refine aw_finI (hR _ _ dX7_look_40) ?_ ?_
        · rfl
        · rfl
    · cases c_20
set_option maxHeartbeats 4000000 in
set_option maxRecDepth 100000 in
theorem m_X7_look_full (d : Nat) (G : GT) (S : St) (i : Nat) (hi : i < S.1 7) (h7 : S.1 7 ≤ 12) (dy : Int32) (hdy : inR dy (nI 0) (nI (S.1 0)) = true) (b : Bool) (h : S.2.1 27 i ≤ dy) (hl : S.1 8 = 30) : rX7_look G (d + 2) [.ref (gad G 0), .int (nI i), .int dy, .int (bI b)] S (some (.int (-3))) S := by
  refine runs_I (d := (d + 1)) (by decide) (Nat.le_of_ble_eq_true rfl) (fun X (hX : XC X G (d + 1) RX7 cX7_look 4) hR => ?_)
  show AW X G 0 [.ref (gad G 0), .int (nI i), .int dy, .int (bI b)] [] S
  refine aw_aload_0 hX dX7_look_0 ?_
  refine ag_X7_flues hX fl_X7_26 dX7_look_1 ?_
  refine aw_iload_1 hX dX7_look_4 ?_
  refine cv_X2_has hX ml_X7_129 dX7_look_5 (m_X2_has_b _ G S _ true h7 (hasB_t hi (by omega))) (Nat.le_of_ble_eq_true rfl) ?_
  first | with_reducible refine aw_ifeqB hX (tgt := 23) dX7_look_8 (by decide) (fun c_8 => ?_) (fun c_8 => ?_) | refine aw_ifeq hX (tgt := 23) dX7_look_8 (by decide) (fun c_8 => ?_) (fun c_8 => ?_)
  · cases c_8
  · skip
    refine aw_iload_2 hX dX7_look_11 ?_
    refine aw_iconst hX (v := nI 0) (by decide) dX7_look_12 ?_
    refine aw_aload_0 hX dX7_look_13 ?_
    refine ag_X7_today hX fl_X7_62 dX7_look_14 ?_
    refine cs_X7_within hX ml_X7_73 dX7_look_17 (m_X7_within_b _ G S _ _ _ true hdy) (Nat.le_of_ble_eq_true rfl) ?_
    first | with_reducible refine aw_ifneB hX (tgt := 25) dX7_look_20 (by decide) (fun c_20 => ?_) (fun c_20 => ?_) | refine aw_ifne hX (tgt := 25) dX7_look_20 (by decide) (fun c_20 => ?_) (fun c_20 => ?_)
    · skip
      refine aw_aload_0 hX dX7_look_25 ?_
      refine ag_X7_flues hX fl_X7_26 dX7_look_26 ?_
      refine ag_X2_came hX fl_X7_181 dX7_look_29 ?_
      refine aw_iload_1 hX dX7_look_32 ?_
      refine aw_iald hX dX7_look_33 rfl (by decide) (by omega) ?_
      refine aw_iload_2 hX dX7_look_34 ?_
      first | with_reducible refine aw_icmpleN hX (tgt := 41) dX7_look_35 (by decide) (by omega) (by omega) (fun c_35 => ?_) (fun c_35 => ?_) | refine aw_jle hX (tgt := 41) dX7_look_35 (by decide) (fun c_35 => ?_) (fun c_35 => ?_)
      · skip
        refine aw_aload_0 hX dX7_look_41 ?_
        refine ag_X7_looks hX fl_X7_33 dX7_look_42 ?_
        refine cv_X4_isFull hX ml_X7_184 dX7_look_45 (m_X4_isFull _ G S (by omega)) (Nat.le_of_ble_eq_true rfl) ?_
        first | with_reducible refine aw_ifeqB hX (tgt := 54) dX7_look_48 (by decide) (fun c_48 => ?_) (fun c_48 => ?_) | refine aw_ifeq hX (tgt := 54) dX7_look_48 (by decide) (fun c_48 => ?_) (fun c_48 => ?_)
        · exact absurd c_48 (by simp; omega)
        · skip
          refine aw_bipush hX (v := (-3)) (by decide) dX7_look_51 ?_
          refine aw_finI (hR _ _ dX7_look_53) ?_ ?_
          · rfl
          · rfl
      · exact absurd h c_35
    · cases c_20
set_option maxHeartbeats 4000000 in
set_option maxRecDepth 100000 in
theorem m_X7_look_true (d : Nat) (G : GT) (S : St) (i : Nat) (hi : i < S.1 7) (h7 : S.1 7 ≤ 12) (dy : Int32) (hdy : inR dy (nI 0) (nI (S.1 0)) = true) (h : S.2.1 27 i ≤ dy) (hl : S.1 8 < 30) : rX7_look G (d + 2) [.ref (gad G 0), .int (nI i), .int dy, .int (bI true)] S (some (.int (nI (S.1 8)))) (sN (sA (sA (sA (sA (sA S 28 i (nI 0)) 30 (S.1 8) (nI i)) 31 (S.1 8) dy) 32 (S.1 8) (nI (S.1 0))) 33 (S.1 8) (bI true)) 8 (S.1 8 + 1)) := by
  refine runs_I (d := (d + 1)) (by decide) (Nat.le_of_ble_eq_true rfl) (fun X (hX : XC X G (d + 1) RX7 cX7_look 4) hR => ?_)
  show AW X G 0 [.ref (gad G 0), .int (nI i), .int dy, .int (bI true)] [] S
  refine aw_aload_0 hX dX7_look_0 ?_
  refine ag_X7_flues hX fl_X7_26 dX7_look_1 ?_
  refine aw_iload_1 hX dX7_look_4 ?_
  refine cv_X2_has hX ml_X7_129 dX7_look_5 (m_X2_has_b _ G S _ true h7 (hasB_t hi (by omega))) (Nat.le_of_ble_eq_true rfl) ?_
  first | with_reducible refine aw_ifeqB hX (tgt := 23) dX7_look_8 (by decide) (fun c_8 => ?_) (fun c_8 => ?_) | refine aw_ifeq hX (tgt := 23) dX7_look_8 (by decide) (fun c_8 => ?_) (fun c_8 => ?_)
  · cases c_8
  · skip
    refine aw_iload_2 hX dX7_look_11 ?_
    refine aw_iconst hX (v := nI 0) (by decide) dX7_look_12 ?_
    refine aw_aload_0 hX dX7_look_13 ?_
    refine ag_X7_today hX fl_X7_62 dX7_look_14 ?_
    refine cs_X7_within hX ml_X7_73 dX7_look_17 (m_X7_within_b _ G S _ _ _ true hdy) (Nat.le_of_ble_eq_true rfl) ?_
    first | with_reducible refine aw_ifneB hX (tgt := 25) dX7_look_20 (by decide) (fun c_20 => ?_) (fun c_20 => ?_) | refine aw_ifne hX (tgt := 25) dX7_look_20 (by decide) (fun c_20 => ?_) (fun c_20 => ?_)
    · skip
      refine aw_aload_0 hX dX7_look_25 ?_
      refine ag_X7_flues hX fl_X7_26 dX7_look_26 ?_
      refine ag_X2_came hX fl_X7_181 dX7_look_29 ?_
      refine aw_iload_1 hX dX7_look_32 ?_
      refine aw_iald hX dX7_look_33 rfl (by decide) (by omega) ?_
      refine aw_iload_2 hX dX7_look_34 ?_
      first | with_reducible refine aw_icmpleN hX (tgt := 41) dX7_look_35 (by decide) (by omega) (by omega) (fun c_35 => ?_) (fun c_35 => ?_) | refine aw_jle hX (tgt := 41) dX7_look_35 (by decide) (fun c_35 => ?_) (fun c_35 => ?_)
      · skip
        refine aw_aload_0 hX dX7_look_41 ?_
        refine ag_X7_looks hX fl_X7_33 dX7_look_42 ?_
        refine cv_X4_isFull hX ml_X7_184 dX7_look_45 (m_X4_isFull _ G S (by omega)) (Nat.le_of_ble_eq_true rfl) ?_
        first | with_reducible refine aw_ifeqB hX (tgt := 54) dX7_look_48 (by decide) (fun c_48 => ?_) (fun c_48 => ?_) | refine aw_ifeq hX (tgt := 54) dX7_look_48 (by decide) (fun c_48 => ?_) (fun c_48 => ?_)
        · skip
          refine aw_iload_3 hX dX7_look_54 ?_
          first | with_reducible refine aw_ifeqB hX (tgt := 68) dX7_look_55 (by decide) (fun c_55 => ?_) (fun c_55 => ?_) | refine aw_ifeq hX (tgt := 68) dX7_look_55 (by decide) (fun c_55 => ?_) (fun c_55 => ?_)
          · cases c_55
          · skip
            refine aw_aload_0 hX dX7_look_58 ?_
            refine ag_X7_flues hX fl_X7_26 dX7_look_59 ?_
            refine ag_X2_refusals hX fl_X7_158 dX7_look_62 ?_
            refine aw_iload_1 hX dX7_look_65 ?_
            refine aw_iconst hX (v := nI 0) (by decide) dX7_look_66 ?_
            refine aw_iast hX dX7_look_67 rfl (fun _ => rfl) (by decide) (by omega) ?_
            refine aw_aload_0 hX dX7_look_68 ?_
            refine ag_X7_looks hX fl_X7_33 dX7_look_69 ?_
            try simp only [sN_N, sN_A, sN_L, sN_R, sA_N, sA_A, sA_L, sA_R, sL_N, sL_A, sL_L, sL_R, sR_N, sR_A, sR_L, sR_R, reduceIte]
            refine aw_iload_1 hX dX7_look_72 ?_
            refine aw_iload_2 hX dX7_look_73 ?_
            refine aw_aload_0 hX dX7_look_74 ?_
            refine ag_X7_today hX fl_X7_62 dX7_look_75 ?_
            try simp only [sN_N, sN_A, sN_L, sN_R, sA_N, sA_A, sA_L, sA_R, sL_N, sL_A, sL_L, sL_R, sR_N, sR_A, sR_L, sR_R, reduceIte]
            refine aw_iload_3 hX dX7_look_78 ?_
            refine cv_X4_add hX ml_X7_185 dX7_look_79 (m_X4_add _ G (sA S 28 i (nI 0)) _ _ _ true hl) (Nat.le_of_ble_eq_true rfl) ?_
            refine aw_finI (hR _ _ dX7_look_82) ?_ ?_
            · rfl
            · rfl
        · exact absurd c_48 (by simp; omega)
      · exact absurd h c_35
    · cases c_20
set_option maxHeartbeats 4000000 in
set_option maxRecDepth 100000 in
theorem m_X7_look_false (d : Nat) (G : GT) (S : St) (i : Nat) (hi : i < S.1 7) (h7 : S.1 7 ≤ 12) (dy : Int32) (hdy : inR dy (nI 0) (nI (S.1 0)) = true) (h : S.2.1 27 i ≤ dy) (hl : S.1 8 < 30) : rX7_look G (d + 2) [.ref (gad G 0), .int (nI i), .int dy, .int (bI false)] S (some (.int (nI (S.1 8)))) (sN (sA (sA (sA (sA (S) 30 (S.1 8) (nI i)) 31 (S.1 8) dy) 32 (S.1 8) (nI (S.1 0))) 33 (S.1 8) (bI false)) 8 (S.1 8 + 1)) := by
  refine runs_I (d := (d + 1)) (by decide) (Nat.le_of_ble_eq_true rfl) (fun X (hX : XC X G (d + 1) RX7 cX7_look 4) hR => ?_)
  show AW X G 0 [.ref (gad G 0), .int (nI i), .int dy, .int (bI false)] [] S
  refine aw_aload_0 hX dX7_look_0 ?_
  refine ag_X7_flues hX fl_X7_26 dX7_look_1 ?_
  refine aw_iload_1 hX dX7_look_4 ?_
  refine cv_X2_has hX ml_X7_129 dX7_look_5 (m_X2_has_b _ G S _ true h7 (hasB_t hi (by omega))) (Nat.le_of_ble_eq_true rfl) ?_
  first | with_reducible refine aw_ifeqB hX (tgt := 23) dX7_look_8 (by decide) (fun c_8 => ?_) (fun c_8 => ?_) | refine aw_ifeq hX (tgt := 23) dX7_look_8 (by decide) (fun c_8 => ?_) (fun c_8 => ?_)
  · cases c_8
  · skip
    refine aw_iload_2 hX dX7_look_11 ?_
    refine aw_iconst hX (v := nI 0) (by decide) dX7_look_12 ?_
    refine aw_aload_0 hX dX7_look_13 ?_
    refine ag_X7_today hX fl_X7_62 dX7_look_14 ?_
    refine cs_X7_within hX ml_X7_73 dX7_look_17 (m_X7_within_b _ G S _ _ _ true hdy) (Nat.le_of_ble_eq_true rfl) ?_
    first | with_reducible refine aw_ifneB hX (tgt := 25) dX7_look_20 (by decide) (fun c_20 => ?_) (fun c_20 => ?_) | refine aw_ifne hX (tgt := 25) dX7_look_20 (by decide) (fun c_20 => ?_) (fun c_20 => ?_)
    · skip
      refine aw_aload_0 hX dX7_look_25 ?_
      refine ag_X7_flues hX fl_X7_26 dX7_look_26 ?_
      refine ag_X2_came hX fl_X7_181 dX7_look_29 ?_
      refine aw_iload_1 hX dX7_look_32 ?_
      refine aw_iald hX dX7_look_33 rfl (by decide) (by omega) ?_
      refine aw_iload_2 hX dX7_look_34 ?_
      first | with_reducible refine aw_icmpleN hX (tgt := 41) dX7_look_35 (by decide) (by omega) (by omega) (fun c_35 => ?_) (fun c_35 => ?_) | refine aw_jle hX (tgt := 41) dX7_look_35 (by decide) (fun c_35 => ?_) (fun c_35 => ?_)
      · skip
        refine aw_aload_0 hX dX7_look_41 ?_
        refine ag_X7_looks hX fl_X7_33 dX7_look_42 ?_
        refine cv_X4_isFull hX ml_X7_184 dX7_look_45 (m_X4_isFull _ G S (by omega)) (Nat.le_of_ble_eq_true rfl) ?_
        first | with_reducible refine aw_ifeqB hX (tgt := 54) dX7_look_48 (by decide) (fun c_48 => ?_) (fun c_48 => ?_) | refine aw_ifeq hX (tgt := 54) dX7_look_48 (by decide) (fun c_48 => ?_) (fun c_48 => ?_)
        · skip
          refine aw_iload_3 hX dX7_look_54 ?_
          first | with_reducible refine aw_ifeqB hX (tgt := 68) dX7_look_55 (by decide) (fun c_55 => ?_) (fun c_55 => ?_) | refine aw_ifeq hX (tgt := 68) dX7_look_55 (by decide) (fun c_55 => ?_) (fun c_55 => ?_)
          · skip
            refine aw_aload_0 hX dX7_look_68 ?_
            refine ag_X7_looks hX fl_X7_33 dX7_look_69 ?_
            refine aw_iload_1 hX dX7_look_72 ?_
            refine aw_iload_2 hX dX7_look_73 ?_
            refine aw_aload_0 hX dX7_look_74 ?_
            refine ag_X7_today hX fl_X7_62 dX7_look_75 ?_
            refine aw_iload_3 hX dX7_look_78 ?_
            refine cv_X4_add hX ml_X7_185 dX7_look_79 (m_X4_add _ G (S) _ _ _ false hl) (Nat.le_of_ble_eq_true rfl) ?_
            refine aw_finI (hR _ _ dX7_look_82) ?_ ?_
            · rfl
            · rfl
          · cases c_55
        · exact absurd c_48 (by simp; omega)
      · exact absurd h c_35
    · cases c_20
set_option maxHeartbeats 4000000 in
set_option maxRecDepth 100000 in
theorem m_X7_fire_state (d : Nat) (G : GT) (S : St) (i : Nat) (hi : i < S.1 7) (h7 : S.1 7 ≤ 12) (dy : Int32) (hdy : inR dy (nI 0) (nI (S.1 0)) = true) (h : ¬ S.2.1 27 i ≤ dy) : rX7_fire G (d + 2) [.ref (gad G 0), .int (nI i), .int dy] S (some (.int (-2))) S := by
  refine runs_I (d := (d + 1)) (by decide) (Nat.le_of_ble_eq_true rfl) (fun X (hX : XC X G (d + 1) RX7 cX7_fire 3) hR => ?_)
  show AW X G 0 [.ref (gad G 0), .int (nI i), .int dy] [] S
  refine aw_aload_0 hX dX7_fire_0 ?_
  refine ag_X7_flues hX fl_X7_26 dX7_fire_1 ?_
  refine aw_iload_1 hX dX7_fire_4 ?_
  refine cv_X2_has hX ml_X7_129 dX7_fire_5 (m_X2_has_b _ G S _ true h7 (hasB_t hi (by omega))) (Nat.le_of_ble_eq_true rfl) ?_
  first | with_reducible refine aw_ifeqB hX (tgt := 23) dX7_fire_8 (by decide) (fun c_8 => ?_) (fun c_8 => ?_) | refine aw_ifeq hX (tgt := 23) dX7_fire_8 (by decide) (fun c_8 => ?_) (fun c_8 => ?_)
  · cases c_8
  · skip
    refine aw_iload_2 hX dX7_fire_11 ?_
    refine aw_iconst hX (v := nI 0) (by decide) dX7_fire_12 ?_
    refine aw_aload_0 hX dX7_fire_13 ?_
    refine ag_X7_today hX fl_X7_62 dX7_fire_14 ?_
    refine cs_X7_within hX ml_X7_73 dX7_fire_17 (m_X7_within_b _ G S _ _ _ true hdy) (Nat.le_of_ble_eq_true rfl) ?_
    first | with_reducible refine aw_ifneB hX (tgt := 25) dX7_fire_20 (by decide) (fun c_20 => ?_) (fun c_20 => ?_) | refine aw_ifne hX (tgt := 25) dX7_fire_20 (by decide) (fun c_20 => ?_) (fun c_20 => ?_)
    · skip
      refine aw_aload_0 hX dX7_fire_25 ?_
      refine ag_X7_flues hX fl_X7_26 dX7_fire_26 ?_
      refine ag_X2_came hX fl_X7_181 dX7_fire_29 ?_
      refine aw_iload_1 hX dX7_fire_32 ?_
      refine aw_iald hX dX7_fire_33 rfl (by decide) (by omega) ?_
      refine aw_iload_2 hX dX7_fire_34 ?_
      first | with_reducible refine aw_icmpleN hX (tgt := 41) dX7_fire_35 (by decide) (by omega) (by omega) (fun c_35 => ?_) (fun c_35 => ?_) | refine aw_jle hX (tgt := 41) dX7_fire_35 (by decide) (fun c_35 => ?_) (fun c_35 => ?_)
      · exact absurd c_35 h
      · skip
        refine aw_bipush hX (v := (-2)) (by decide) dX7_fire_38 ?_
        refine aw_finI (hR _ _ dX7_fire_40) ?_ ?_
        · rfl
        · rfl
    · cases c_20
set_option maxHeartbeats 4000000 in
set_option maxRecDepth 100000 in
theorem m_X7_fire_full (d : Nat) (G : GT) (S : St) (i : Nat) (hi : i < S.1 7) (h7 : S.1 7 ≤ 12) (dy : Int32) (hdy : inR dy (nI 0) (nI (S.1 0)) = true) (h : S.2.1 27 i ≤ dy) (hl : S.1 9 = 10) : rX7_fire G (d + 2) [.ref (gad G 0), .int (nI i), .int dy] S (some (.int (-3))) S := by
  refine runs_I (d := (d + 1)) (by decide) (Nat.le_of_ble_eq_true rfl) (fun X (hX : XC X G (d + 1) RX7 cX7_fire 3) hR => ?_)
  show AW X G 0 [.ref (gad G 0), .int (nI i), .int dy] [] S
  refine aw_aload_0 hX dX7_fire_0 ?_
  refine ag_X7_flues hX fl_X7_26 dX7_fire_1 ?_
  refine aw_iload_1 hX dX7_fire_4 ?_
  refine cv_X2_has hX ml_X7_129 dX7_fire_5 (m_X2_has_b _ G S _ true h7 (hasB_t hi (by omega))) (Nat.le_of_ble_eq_true rfl) ?_
  first | with_reducible refine aw_ifeqB hX (tgt := 23) dX7_fire_8 (by decide) (fun c_8 => ?_) (fun c_8 => ?_) | refine aw_ifeq hX (tgt := 23) dX7_fire_8 (by decide) (fun c_8 => ?_) (fun c_8 => ?_)
  · cases c_8
  · skip
    refine aw_iload_2 hX dX7_fire_11 ?_
    refine aw_iconst hX (v := nI 0) (by decide) dX7_fire_12 ?_
    refine aw_aload_0 hX dX7_fire_13 ?_
    refine ag_X7_today hX fl_X7_62 dX7_fire_14 ?_
    refine cs_X7_within hX ml_X7_73 dX7_fire_17 (m_X7_within_b _ G S _ _ _ true hdy) (Nat.le_of_ble_eq_true rfl) ?_
    first | with_reducible refine aw_ifneB hX (tgt := 25) dX7_fire_20 (by decide) (fun c_20 => ?_) (fun c_20 => ?_) | refine aw_ifne hX (tgt := 25) dX7_fire_20 (by decide) (fun c_20 => ?_) (fun c_20 => ?_)
    · skip
      refine aw_aload_0 hX dX7_fire_25 ?_
      refine ag_X7_flues hX fl_X7_26 dX7_fire_26 ?_
      refine ag_X2_came hX fl_X7_181 dX7_fire_29 ?_
      refine aw_iload_1 hX dX7_fire_32 ?_
      refine aw_iald hX dX7_fire_33 rfl (by decide) (by omega) ?_
      refine aw_iload_2 hX dX7_fire_34 ?_
      first | with_reducible refine aw_icmpleN hX (tgt := 41) dX7_fire_35 (by decide) (by omega) (by omega) (fun c_35 => ?_) (fun c_35 => ?_) | refine aw_jle hX (tgt := 41) dX7_fire_35 (by decide) (fun c_35 => ?_) (fun c_35 => ?_)
      · skip
        refine aw_aload_0 hX dX7_fire_41 ?_
        refine ag_X7_fires hX fl_X7_40 dX7_fire_42 ?_
        refine cv_X1_isFull hX ml_X7_191 dX7_fire_45 (m_X1_isFull _ G S (by omega)) (Nat.le_of_ble_eq_true rfl) ?_
        first | with_reducible refine aw_ifeqB hX (tgt := 54) dX7_fire_48 (by decide) (fun c_48 => ?_) (fun c_48 => ?_) | refine aw_ifeq hX (tgt := 54) dX7_fire_48 (by decide) (fun c_48 => ?_) (fun c_48 => ?_)
        · exact absurd c_48 (by simp; omega)
        · skip
          refine aw_bipush hX (v := (-3)) (by decide) dX7_fire_51 ?_
          refine aw_finI (hR _ _ dX7_fire_53) ?_ ?_
          · rfl
          · rfl
      · exact absurd h c_35
    · cases c_20
set_option maxHeartbeats 4000000 in
set_option maxRecDepth 100000 in
theorem m_X7_fire_ok (d : Nat) (G : GT) (S : St) (i : Nat) (hi : i < S.1 7) (h7 : S.1 7 ≤ 12) (dy : Int32) (hdy : inR dy (nI 0) (nI (S.1 0)) = true) (h : S.2.1 27 i ≤ dy) (hl : S.1 9 < 10) : rX7_fire G (d + 2) [.ref (gad G 0), .int (nI i), .int dy] S (some (.int (nI (S.1 9)))) (sN (sA (sA S 34 (S.1 9) (nI i)) 35 (S.1 9) dy) 9 (S.1 9 + 1)) := by
  refine runs_I (d := (d + 1)) (by decide) (Nat.le_of_ble_eq_true rfl) (fun X (hX : XC X G (d + 1) RX7 cX7_fire 3) hR => ?_)
  show AW X G 0 [.ref (gad G 0), .int (nI i), .int dy] [] S
  refine aw_aload_0 hX dX7_fire_0 ?_
  refine ag_X7_flues hX fl_X7_26 dX7_fire_1 ?_
  refine aw_iload_1 hX dX7_fire_4 ?_
  refine cv_X2_has hX ml_X7_129 dX7_fire_5 (m_X2_has_b _ G S _ true h7 (hasB_t hi (by omega))) (Nat.le_of_ble_eq_true rfl) ?_
  first | with_reducible refine aw_ifeqB hX (tgt := 23) dX7_fire_8 (by decide) (fun c_8 => ?_) (fun c_8 => ?_) | refine aw_ifeq hX (tgt := 23) dX7_fire_8 (by decide) (fun c_8 => ?_) (fun c_8 => ?_)
  · cases c_8
  · skip
    refine aw_iload_2 hX dX7_fire_11 ?_
    refine aw_iconst hX (v := nI 0) (by decide) dX7_fire_12 ?_
    refine aw_aload_0 hX dX7_fire_13 ?_
    refine ag_X7_today hX fl_X7_62 dX7_fire_14 ?_
    refine cs_X7_within hX ml_X7_73 dX7_fire_17 (m_X7_within_b _ G S _ _ _ true hdy) (Nat.le_of_ble_eq_true rfl) ?_
    first | with_reducible refine aw_ifneB hX (tgt := 25) dX7_fire_20 (by decide) (fun c_20 => ?_) (fun c_20 => ?_) | refine aw_ifne hX (tgt := 25) dX7_fire_20 (by decide) (fun c_20 => ?_) (fun c_20 => ?_)
    · skip
      refine aw_aload_0 hX dX7_fire_25 ?_
      refine ag_X7_flues hX fl_X7_26 dX7_fire_26 ?_
      refine ag_X2_came hX fl_X7_181 dX7_fire_29 ?_
      refine aw_iload_1 hX dX7_fire_32 ?_
      refine aw_iald hX dX7_fire_33 rfl (by decide) (by omega) ?_
      refine aw_iload_2 hX dX7_fire_34 ?_
      first | with_reducible refine aw_icmpleN hX (tgt := 41) dX7_fire_35 (by decide) (by omega) (by omega) (fun c_35 => ?_) (fun c_35 => ?_) | refine aw_jle hX (tgt := 41) dX7_fire_35 (by decide) (fun c_35 => ?_) (fun c_35 => ?_)
      · skip
        refine aw_aload_0 hX dX7_fire_41 ?_
        refine ag_X7_fires hX fl_X7_40 dX7_fire_42 ?_
        refine cv_X1_isFull hX ml_X7_191 dX7_fire_45 (m_X1_isFull _ G S (by omega)) (Nat.le_of_ble_eq_true rfl) ?_
        first | with_reducible refine aw_ifeqB hX (tgt := 54) dX7_fire_48 (by decide) (fun c_48 => ?_) (fun c_48 => ?_) | refine aw_ifeq hX (tgt := 54) dX7_fire_48 (by decide) (fun c_48 => ?_) (fun c_48 => ?_)
        · skip
          refine aw_aload_0 hX dX7_fire_54 ?_
          refine ag_X7_fires hX fl_X7_40 dX7_fire_55 ?_
          refine aw_iload_1 hX dX7_fire_58 ?_
          refine aw_iload_2 hX dX7_fire_59 ?_
          refine cv_X1_add hX ml_X7_192 dX7_fire_60 (m_X1_add _ G S _ _ hl) (Nat.le_of_ble_eq_true rfl) ?_
          refine aw_finI (hR _ _ dX7_fire_63) ?_ ?_
          · rfl
          · rfl
        · exact absurd c_48 (by simp; omega)
      · exact absurd h c_35
    · cases c_20
set_option maxHeartbeats 4000000 in
set_option maxRecDepth 100000 in
theorem m_X7_back_bad (d : Nat) (G : GT) (S : St) (f : Int32) (w : Int32) (h9 : S.1 9 ≤ 10) (h : hasB f (S.1 9) = false) : rX7_back G (d + 2) [.ref (gad G 0), .int f, .int w] S (some (.int (-1))) S := by
  refine runs_I (d := (d + 1)) (by decide) (Nat.le_of_ble_eq_true rfl) (fun X (hX : XC X G (d + 1) RX7 cX7_back 5) hR => ?_)
  show AW X G 0 [.ref (gad G 0), .int f, .int w, .null, .null] [] S
  refine aw_aload_0 hX dX7_back_0 ?_
  refine ag_X7_fires hX fl_X7_40 dX7_back_1 ?_
  refine aw_iload_1 hX dX7_back_4 ?_
  refine cv_X1_has hX ml_X7_194 dX7_back_5 (m_X1_has_b _ G S _ false h9 h) (Nat.le_of_ble_eq_true rfl) ?_
  first | with_reducible refine aw_ifneB hX (tgt := 13) dX7_back_8 (by decide) (fun c_8 => ?_) (fun c_8 => ?_) | refine aw_ifne hX (tgt := 13) dX7_back_8 (by decide) (fun c_8 => ?_) (fun c_8 => ?_)
  · cases c_8
  · skip
    refine aw_iconst hX (v := (-1)) (by decide) dX7_back_11 ?_
    refine aw_finI (hR _ _ dX7_back_12) ?_ ?_
    · rfl
    · rfl
set_option maxHeartbeats 4000000 in
set_option maxRecDepth 100000 in
theorem m_X7_back_out (d : Nat) (G : GT) (S : St) (j : Nat) (hj : j < S.1 9) (h9 : S.1 9 ≤ 10) (w : Int32) (h : inR w (nI 0) (nI 5) = false) : rX7_back G (d + 2) [.ref (gad G 0), .int (nI j), .int w] S (some (.int (-1))) S := by
  refine runs_I (d := (d + 1)) (by decide) (Nat.le_of_ble_eq_true rfl) (fun X (hX : XC X G (d + 1) RX7 cX7_back 5) hR => ?_)
  show AW X G 0 [.ref (gad G 0), .int (nI j), .int w, .null, .null] [] S
  refine aw_aload_0 hX dX7_back_0 ?_
  refine ag_X7_fires hX fl_X7_40 dX7_back_1 ?_
  refine aw_iload_1 hX dX7_back_4 ?_
  refine cv_X1_has hX ml_X7_194 dX7_back_5 (m_X1_has_b _ G S _ true h9 (hasB_t hj (by omega))) (Nat.le_of_ble_eq_true rfl) ?_
  first | with_reducible refine aw_ifneB hX (tgt := 13) dX7_back_8 (by decide) (fun c_8 => ?_) (fun c_8 => ?_) | refine aw_ifne hX (tgt := 13) dX7_back_8 (by decide) (fun c_8 => ?_) (fun c_8 => ?_)
  · skip
    refine aw_aload_0 hX dX7_back_13 ?_
    refine ag_X7_fires hX fl_X7_40 dX7_back_14 ?_
    refine ag_X1_flue hX fl_X7_195 dX7_back_17 ?_
    refine aw_iload_1 hX dX7_back_20 ?_
    refine aw_iald hX dX7_back_21 rfl (by decide) (by omega) ?_
    refine aw_istore_3 hX rfl (by decide) dX7_back_22 ?_
    refine aw_aload_0 hX dX7_back_23 ?_
    refine ag_X7_fires hX fl_X7_40 dX7_back_24 ?_
    refine ag_X1_day hX fl_X7_198 dX7_back_27 ?_
    refine aw_iload_1 hX dX7_back_30 ?_
    refine aw_iald hX dX7_back_31 rfl (by decide) (by omega) ?_
    refine aw_istore_4 hX rfl (by decide) dX7_back_32 ?_
    refine aw_iload_2 hX dX7_back_34 ?_
    refine aw_tabOut hX (tgt := 115) dX7_back_35 (inR_out h (by decide)) (by decide) ?_
    refine aw_iconst hX (v := (-1)) (by decide) dX7_back_115 ?_
    refine aw_finI (hR _ _ dX7_back_116) ?_ ?_
    · rfl
    · rfl
  · cases c_8
set_option maxHeartbeats 4000000 in
set_option maxRecDepth 100000 in
theorem m_X7_back_0 (d : Nat) (G : GT) (S : St) (j : Nat) (hj : j < S.1 9) (h9 : S.1 9 ≤ 10)  : rX7_back G (d + 2) [.ref (gad G 0), .int (nI j), .int (nI 0)] S (some (.int (S.2.1 34 j))) S := by
  refine runs_I (d := (d + 1)) (by decide) (Nat.le_of_ble_eq_true rfl) (fun X (hX : XC X G (d + 1) RX7 cX7_back 5) hR => ?_)
  show AW X G 0 [.ref (gad G 0), .int (nI j), .int (nI 0), .null, .null] [] S
  refine aw_aload_0 hX dX7_back_0 ?_
  refine ag_X7_fires hX fl_X7_40 dX7_back_1 ?_
  refine aw_iload_1 hX dX7_back_4 ?_
  refine cv_X1_has hX ml_X7_194 dX7_back_5 (m_X1_has_b _ G S _ true h9 (hasB_t hj (by omega))) (Nat.le_of_ble_eq_true rfl) ?_
  first | with_reducible refine aw_ifneB hX (tgt := 13) dX7_back_8 (by decide) (fun c_8 => ?_) (fun c_8 => ?_) | refine aw_ifne hX (tgt := 13) dX7_back_8 (by decide) (fun c_8 => ?_) (fun c_8 => ?_)
  · skip
    refine aw_aload_0 hX dX7_back_13 ?_
    refine ag_X7_fires hX fl_X7_40 dX7_back_14 ?_
    refine ag_X1_flue hX fl_X7_195 dX7_back_17 ?_
    refine aw_iload_1 hX dX7_back_20 ?_
    refine aw_iald hX dX7_back_21 rfl (by decide) (by omega) ?_
    refine aw_istore_3 hX rfl (by decide) dX7_back_22 ?_
    refine aw_aload_0 hX dX7_back_23 ?_
    refine ag_X7_fires hX fl_X7_40 dX7_back_24 ?_
    refine ag_X1_day hX fl_X7_198 dX7_back_27 ?_
    refine aw_iload_1 hX dX7_back_30 ?_
    refine aw_iald hX dX7_back_31 rfl (by decide) (by omega) ?_
    refine aw_istore_4 hX rfl (by decide) dX7_back_32 ?_
    refine aw_iload_2 hX dX7_back_34 ?_
    refine aw_tabIn hX (x := nI 0) (off := 37) (tgt := 72) dX7_back_35 (by decide) (by decide) (by decide) (by decide) ?_
    refine aw_iload_3 hX dX7_back_72 ?_
    refine aw_finI (hR _ _ dX7_back_73) ?_ ?_
    · rfl
    · rfl
  · cases c_8
set_option maxHeartbeats 4000000 in
set_option maxRecDepth 100000 in
theorem m_X7_back_1 (d : Nat) (G : GT) (S : St) (j : Nat) (hj : j < S.1 9) (h9 : S.1 9 ≤ 10)  : rX7_back G (d + 2) [.ref (gad G 0), .int (nI j), .int (nI 1)] S (some (.int (S.2.1 35 j))) S := by
  refine runs_I (d := (d + 1)) (by decide) (Nat.le_of_ble_eq_true rfl) (fun X (hX : XC X G (d + 1) RX7 cX7_back 5) hR => ?_)
  show AW X G 0 [.ref (gad G 0), .int (nI j), .int (nI 1), .null, .null] [] S
  refine aw_aload_0 hX dX7_back_0 ?_
  refine ag_X7_fires hX fl_X7_40 dX7_back_1 ?_
  refine aw_iload_1 hX dX7_back_4 ?_
  refine cv_X1_has hX ml_X7_194 dX7_back_5 (m_X1_has_b _ G S _ true h9 (hasB_t hj (by omega))) (Nat.le_of_ble_eq_true rfl) ?_
  first | with_reducible refine aw_ifneB hX (tgt := 13) dX7_back_8 (by decide) (fun c_8 => ?_) (fun c_8 => ?_) | refine aw_ifne hX (tgt := 13) dX7_back_8 (by decide) (fun c_8 => ?_) (fun c_8 => ?_)
  · skip
    refine aw_aload_0 hX dX7_back_13 ?_
    refine ag_X7_fires hX fl_X7_40 dX7_back_14 ?_
    refine ag_X1_flue hX fl_X7_195 dX7_back_17 ?_
    refine aw_iload_1 hX dX7_back_20 ?_
    refine aw_iald hX dX7_back_21 rfl (by decide) (by omega) ?_
    refine aw_istore_3 hX rfl (by decide) dX7_back_22 ?_
    refine aw_aload_0 hX dX7_back_23 ?_
    refine ag_X7_fires hX fl_X7_40 dX7_back_24 ?_
    refine ag_X1_day hX fl_X7_198 dX7_back_27 ?_
    refine aw_iload_1 hX dX7_back_30 ?_
    refine aw_iald hX dX7_back_31 rfl (by decide) (by omega) ?_
    refine aw_istore_4 hX rfl (by decide) dX7_back_32 ?_
    refine aw_iload_2 hX dX7_back_34 ?_
    refine aw_tabIn hX (x := nI 1) (off := 39) (tgt := 74) dX7_back_35 (by decide) (by decide) (by decide) (by decide) ?_
    refine aw_iload_4 hX dX7_back_74 ?_
    refine aw_finI (hR _ _ dX7_back_76) ?_ ?_
    · rfl
    · rfl
  · cases c_8
set_option maxHeartbeats 4000000 in
set_option maxRecDepth 100000 in
theorem m_X7_back_2 (d : Nat) (G : GT) (S : St) (j : Nat) (hj : j < S.1 9) (h9 : S.1 9 ≤ 10) (i : Nat) (hi : i < 12) (hf : S.2.1 34 j = nI i) (hs : S.1 10 ≤ 100) : rX7_back G (d + 3) [.ref (gad G 0), .int (nI j), .int (nI 2)] S (some (.int (swX S i (S.2.1 35 j)))) S := by
  refine runs_I (d := (d + 2)) (by decide) (Nat.le_of_ble_eq_true rfl) (fun X (hX : XC X G (d + 2) RX7 cX7_back 5) hR => ?_)
  show AW X G 0 [.ref (gad G 0), .int (nI j), .int (nI 2), .null, .null] [] S
  refine aw_aload_0 hX dX7_back_0 ?_
  refine ag_X7_fires hX fl_X7_40 dX7_back_1 ?_
  refine aw_iload_1 hX dX7_back_4 ?_
  refine cv_X1_has hX ml_X7_194 dX7_back_5 (m_X1_has_b _ G S _ true h9 (hasB_t hj (by omega))) (Nat.le_of_ble_eq_true rfl) ?_
  first | with_reducible refine aw_ifneB hX (tgt := 13) dX7_back_8 (by decide) (fun c_8 => ?_) (fun c_8 => ?_) | refine aw_ifne hX (tgt := 13) dX7_back_8 (by decide) (fun c_8 => ?_) (fun c_8 => ?_)
  · skip
    refine aw_aload_0 hX dX7_back_13 ?_
    refine ag_X7_fires hX fl_X7_40 dX7_back_14 ?_
    refine ag_X1_flue hX fl_X7_195 dX7_back_17 ?_
    refine aw_iload_1 hX dX7_back_20 ?_
    refine aw_iald hX dX7_back_21 rfl (by decide) (by omega) ?_
    refine aw_ti hf ?_
    refine aw_istore_3 hX rfl (by decide) dX7_back_22 ?_
    refine aw_aload_0 hX dX7_back_23 ?_
    refine ag_X7_fires hX fl_X7_40 dX7_back_24 ?_
    refine ag_X1_day hX fl_X7_198 dX7_back_27 ?_
    refine aw_iload_1 hX dX7_back_30 ?_
    refine aw_iald hX dX7_back_31 rfl (by decide) (by omega) ?_
    refine aw_istore_4 hX rfl (by decide) dX7_back_32 ?_
    refine aw_iload_2 hX dX7_back_34 ?_
    refine aw_tabIn hX (x := nI 2) (off := 42) (tgt := 77) dX7_back_35 (by decide) (by decide) (by decide) (by decide) ?_
    refine aw_aload_0 hX dX7_back_77 ?_
    refine aw_iload_3 hX dX7_back_78 ?_
    refine aw_iload_4 hX dX7_back_79 ?_
    refine cv_X7_sweptBy hX ml_X7_155 dX7_back_81 (m_X7_sweptBy _ G S i _ hi hs) (Nat.le_of_ble_eq_true rfl) ?_
    refine aw_finI (hR _ _ dX7_back_84) ?_ ?_
    · rfl
    · rfl
  · cases c_8
set_option maxHeartbeats 4000000 in
set_option maxRecDepth 100000 in
theorem m_X7_back_3 (d : Nat) (G : GT) (S : St) (j : Nat) (hj : j < S.1 9) (h9 : S.1 9 ≤ 10) (i : Nat) (hi : i < 12) (hf : S.2.1 34 j = nI i) (hs : S.1 10 ≤ 100) : rX7_back G (d + 3) [.ref (gad G 0), .int (nI j), .int (nI 3)] S (some (.int (swhX S i (S.2.1 35 j)))) S := by
  refine runs_I (d := (d + 2)) (by decide) (Nat.le_of_ble_eq_true rfl) (fun X (hX : XC X G (d + 2) RX7 cX7_back 5) hR => ?_)
  show AW X G 0 [.ref (gad G 0), .int (nI j), .int (nI 3), .null, .null] [] S
  refine aw_aload_0 hX dX7_back_0 ?_
  refine ag_X7_fires hX fl_X7_40 dX7_back_1 ?_
  refine aw_iload_1 hX dX7_back_4 ?_
  refine cv_X1_has hX ml_X7_194 dX7_back_5 (m_X1_has_b _ G S _ true h9 (hasB_t hj (by omega))) (Nat.le_of_ble_eq_true rfl) ?_
  first | with_reducible refine aw_ifneB hX (tgt := 13) dX7_back_8 (by decide) (fun c_8 => ?_) (fun c_8 => ?_) | refine aw_ifne hX (tgt := 13) dX7_back_8 (by decide) (fun c_8 => ?_) (fun c_8 => ?_)
  · skip
    refine aw_aload_0 hX dX7_back_13 ?_
    refine ag_X7_fires hX fl_X7_40 dX7_back_14 ?_
    refine ag_X1_flue hX fl_X7_195 dX7_back_17 ?_
    refine aw_iload_1 hX dX7_back_20 ?_
    refine aw_iald hX dX7_back_21 rfl (by decide) (by omega) ?_
    refine aw_ti hf ?_
    refine aw_istore_3 hX rfl (by decide) dX7_back_22 ?_
    refine aw_aload_0 hX dX7_back_23 ?_
    refine ag_X7_fires hX fl_X7_40 dX7_back_24 ?_
    refine ag_X1_day hX fl_X7_198 dX7_back_27 ?_
    refine aw_iload_1 hX dX7_back_30 ?_
    refine aw_iald hX dX7_back_31 rfl (by decide) (by omega) ?_
    refine aw_istore_4 hX rfl (by decide) dX7_back_32 ?_
    refine aw_iload_2 hX dX7_back_34 ?_
    refine aw_tabIn hX (x := nI 3) (off := 50) (tgt := 85) dX7_back_35 (by decide) (by decide) (by decide) (by decide) ?_
    refine aw_aload_0 hX dX7_back_85 ?_
    refine aw_iload_3 hX dX7_back_86 ?_
    refine aw_iload_4 hX dX7_back_87 ?_
    refine cv_X7_sweeperBy hX ml_X7_201 dX7_back_89 (m_X7_sweeperBy _ G S i _ hi hs) (Nat.le_of_ble_eq_true rfl) ?_
    refine aw_finI (hR _ _ dX7_back_92) ?_ ?_
    · rfl
    · rfl
  · cases c_8
set_option maxHeartbeats 4000000 in
set_option maxRecDepth 100000 in
theorem m_X7_back_4 (d : Nat) (G : GT) (S : St) (j : Nat) (hj : j < S.1 9) (h9 : S.1 9 ≤ 10) (i : Nat) (hi : i < 12) (hf : S.2.1 34 j = nI i) (w : Nat) (hs : S.1 10 ≤ 100) (hb : BkOK S) (hw : swX S i (S.2.1 35 j) = nI w) (hw5 : w ≤ 500) : rX7_back G (d + 5) [.ref (gad G 0), .int (nI j), .int (nI 4)] S (some (.int (bI (!decide (S.2.1 35 j ≤ nI (duX S (S.2.1 20 i) w)))))) S := by
  refine runs_I (d := (d + 4)) (by decide) (Nat.le_of_ble_eq_true rfl) (fun X (hX : XC X G (d + 4) RX7 cX7_back 5) hR => ?_)
  show AW X G 0 [.ref (gad G 0), .int (nI j), .int (nI 4), .null, .null] [] S
  refine aw_aload_0 hX dX7_back_0 ?_
  refine ag_X7_fires hX fl_X7_40 dX7_back_1 ?_
  refine aw_iload_1 hX dX7_back_4 ?_
  refine cv_X1_has hX ml_X7_194 dX7_back_5 (m_X1_has_b _ G S _ true h9 (hasB_t hj (by omega))) (Nat.le_of_ble_eq_true rfl) ?_
  first | with_reducible refine aw_ifneB hX (tgt := 13) dX7_back_8 (by decide) (fun c_8 => ?_) (fun c_8 => ?_) | refine aw_ifne hX (tgt := 13) dX7_back_8 (by decide) (fun c_8 => ?_) (fun c_8 => ?_)
  · skip
    refine aw_aload_0 hX dX7_back_13 ?_
    refine ag_X7_fires hX fl_X7_40 dX7_back_14 ?_
    refine ag_X1_flue hX fl_X7_195 dX7_back_17 ?_
    refine aw_iload_1 hX dX7_back_20 ?_
    refine aw_iald hX dX7_back_21 rfl (by decide) (by omega) ?_
    refine aw_ti hf ?_
    refine aw_istore_3 hX rfl (by decide) dX7_back_22 ?_
    refine aw_aload_0 hX dX7_back_23 ?_
    refine ag_X7_fires hX fl_X7_40 dX7_back_24 ?_
    refine ag_X1_day hX fl_X7_198 dX7_back_27 ?_
    refine aw_iload_1 hX dX7_back_30 ?_
    refine aw_iald hX dX7_back_31 rfl (by decide) (by omega) ?_
    refine aw_istore_4 hX rfl (by decide) dX7_back_32 ?_
    refine aw_iload_2 hX dX7_back_34 ?_
    refine aw_tabIn hX (x := nI 4) (off := 58) (tgt := 93) dX7_back_35 (by decide) (by decide) (by decide) (by decide) ?_
    refine aw_aload_0 hX dX7_back_93 ?_
    refine aw_iload_3 hX dX7_back_94 ?_
    refine aw_iload_4 hX dX7_back_95 ?_
    refine cv_X7_wasBeyond hX ml_X7_175 dX7_back_97 (m_X7_wasBeyond _ G S i w _ hi hs hb hw hw5) (Nat.le_of_ble_eq_true rfl) ?_
    refine cs_X7_asNumber hX ml_X7_164 dX7_back_100 (m_X7_asNumber _ G S _) (Nat.le_of_ble_eq_true rfl) ?_
    refine aw_finI (hR _ _ dX7_back_103) ?_ ?_
    · rfl
    · rfl
  · cases c_8
set_option maxHeartbeats 4000000 in
set_option maxRecDepth 100000 in
theorem m_X7_back_5 (d : Nat) (G : GT) (S : St) (j : Nat) (hj : j < S.1 9) (h9 : S.1 9 ≤ 10) (h8 : S.1 8 ≤ 30) : rX7_back G (d + 2) [.ref (gad G 0), .int (nI j), .int (nI 5)] S (some (.int (knX S (S.2.1 34 j) (S.2.1 35 j)))) S := by
  refine runs_I (d := (d + 1)) (by decide) (Nat.le_of_ble_eq_true rfl) (fun X (hX : XC X G (d + 1) RX7 cX7_back 5) hR => ?_)
  show AW X G 0 [.ref (gad G 0), .int (nI j), .int (nI 5), .null, .null] [] S
  refine aw_aload_0 hX dX7_back_0 ?_
  refine ag_X7_fires hX fl_X7_40 dX7_back_1 ?_
  refine aw_iload_1 hX dX7_back_4 ?_
  refine cv_X1_has hX ml_X7_194 dX7_back_5 (m_X1_has_b _ G S _ true h9 (hasB_t hj (by omega))) (Nat.le_of_ble_eq_true rfl) ?_
  first | with_reducible refine aw_ifneB hX (tgt := 13) dX7_back_8 (by decide) (fun c_8 => ?_) (fun c_8 => ?_) | refine aw_ifne hX (tgt := 13) dX7_back_8 (by decide) (fun c_8 => ?_) (fun c_8 => ?_)
  · skip
    refine aw_aload_0 hX dX7_back_13 ?_
    refine ag_X7_fires hX fl_X7_40 dX7_back_14 ?_
    refine ag_X1_flue hX fl_X7_195 dX7_back_17 ?_
    refine aw_iload_1 hX dX7_back_20 ?_
    refine aw_iald hX dX7_back_21 rfl (by decide) (by omega) ?_
    refine aw_istore_3 hX rfl (by decide) dX7_back_22 ?_
    refine aw_aload_0 hX dX7_back_23 ?_
    refine ag_X7_fires hX fl_X7_40 dX7_back_24 ?_
    refine ag_X1_day hX fl_X7_198 dX7_back_27 ?_
    refine aw_iload_1 hX dX7_back_30 ?_
    refine aw_iald hX dX7_back_31 rfl (by decide) (by omega) ?_
    refine aw_istore_4 hX rfl (by decide) dX7_back_32 ?_
    refine aw_iload_2 hX dX7_back_34 ?_
    refine aw_tabIn hX (x := nI 5) (off := 69) (tgt := 104) dX7_back_35 (by decide) (by decide) (by decide) (by decide) ?_
    refine aw_aload_0 hX dX7_back_104 ?_
    refine ag_X7_looks hX fl_X7_33 dX7_back_105 ?_
    refine aw_iload_3 hX dX7_back_108 ?_
    refine aw_iload_4 hX dX7_back_109 ?_
    refine cv_X4_asKnown hX ml_X7_188 dX7_back_111 (m_X4_asKnown _ G S _ _ h8) (Nat.le_of_ble_eq_true rfl) ?_
    refine aw_finI (hR _ _ dX7_back_114) ?_ ?_
    · rfl
    · rfl
  · cases c_8
set_option maxHeartbeats 4000000 in
set_option maxRecDepth 100000 in
theorem m_X7_rate_bad (d : Nat) (G : GT) (S : St) (n : Int32) (h : inR n (nI 1) (nI 9) = false) : rX7_rate G (d + 2) [.ref (gad G 0), .int n] S (some (.int (-1))) S := by
  refine runs_I (d := (d + 1)) (by decide) (Nat.le_of_ble_eq_true rfl) (fun X (hX : XC X G (d + 1) RX7 cX7_rate 3) hR => ?_)
  show AW X G 0 [.ref (gad G 0), .int n, .null] [] S
  refine aw_iload_1 hX dX7_rate_0 ?_
  refine aw_iconst hX (v := nI 1) (by decide) dX7_rate_1 ?_
  refine aw_bipush hX (v := nI 9) (by decide) dX7_rate_2 ?_
  refine cs_X7_within hX ml_X7_73 dX7_rate_4 (m_X7_within_b _ G S _ _ _ false h) (Nat.le_of_ble_eq_true rfl) ?_
  first | with_reducible refine aw_ifneB hX (tgt := 12) dX7_rate_7 (by decide) (fun c_7 => ?_) (fun c_7 => ?_) | refine aw_ifne hX (tgt := 12) dX7_rate_7 (by decide) (fun c_7 => ?_) (fun c_7 => ?_)
  · cases c_7
  · skip
    refine aw_iconst hX (v := (-1)) (by decide) dX7_rate_10 ?_
    refine aw_finI (hR _ _ dX7_rate_11) ?_ ?_
    · rfl
    · rfl
set_option maxHeartbeats 4000000 in
set_option maxRecDepth 100000 in
theorem m_X7_rate_ok (d : Nat) (G : GT) (S : St) (k : Nat) (hk : 1 ≤ k) (hk9 : k ≤ 9) : rX7_rate G (d + 2) [.ref (gad G 0), .int (nI k)] S (some (.int (nI (S.1 1)))) (sN S 1 k) := by
  refine runs_I (d := (d + 1)) (by decide) (Nat.le_of_ble_eq_true rfl) (fun X (hX : XC X G (d + 1) RX7 cX7_rate 3) hR => ?_)
  show AW X G 0 [.ref (gad G 0), .int (nI k), .null] [] S
  refine aw_iload_1 hX dX7_rate_0 ?_
  refine aw_iconst hX (v := nI 1) (by decide) dX7_rate_1 ?_
  refine aw_bipush hX (v := nI 9) (by decide) dX7_rate_2 ?_
  refine cs_X7_within hX ml_X7_73 dX7_rate_4 (m_X7_within_b _ G S _ _ _ true (by rw [inR_nI (by omega) (by omega) (by omega)]; simp; omega)) (Nat.le_of_ble_eq_true rfl) ?_
  first | with_reducible refine aw_ifneB hX (tgt := 12) dX7_rate_7 (by decide) (fun c_7 => ?_) (fun c_7 => ?_) | refine aw_ifne hX (tgt := 12) dX7_rate_7 (by decide) (fun c_7 => ?_) (fun c_7 => ?_)
  · skip
    refine aw_aload_0 hX dX7_rate_12 ?_
    refine ag_X7_feeRate hX fl_X7_66 dX7_rate_13 ?_
    refine aw_istore_2 hX rfl (by decide) dX7_rate_16 ?_
    refine aw_aload_0 hX dX7_rate_17 ?_
    refine aw_iload_1 hX dX7_rate_18 ?_
    refine ap_X7_feeRate hX fl_X7_66 dX7_rate_19 ?_
    refine aw_iload_2 hX dX7_rate_22 ?_
    refine aw_finI (hR _ _ dX7_rate_23) ?_ ?_
    · rfl
    · rfl
  · cases c_7
set_option maxHeartbeats 4000000 in
set_option maxRecDepth 100000 in
theorem m_X7_ill_bad (d : Nat) (G : GT) (S : St) (hd : Int32) (b : Int32) (h : inR hd (nI 0) (nI 3) = false) : rX7_ill G (d + 3) [.ref (gad G 0), .int hd, .int b] S (some (.int (-1))) S := by
  refine runs_I (d := (d + 2)) (by decide) (Nat.le_of_ble_eq_true rfl) (fun X (hX : XC X G (d + 2) RX7 cX7_ill 4) hR => ?_)
  show AW X G 0 [.ref (gad G 0), .int hd, .int b, .null] [] S
  refine aw_iload_1 hX dX7_ill_0 ?_
  refine cs_X7_isHand hX ml_X7_115 dX7_ill_1 (m_X7_isHand_b _ G S _ false h) (Nat.le_of_ble_eq_true rfl) ?_
  first | with_reducible refine aw_ifneB hX (tgt := 9) dX7_ill_4 (by decide) (fun c_4 => ?_) (fun c_4 => ?_) | refine aw_ifne hX (tgt := 9) dX7_ill_4 (by decide) (fun c_4 => ?_) (fun c_4 => ?_)
  · cases c_4
  · skip
    refine aw_iconst hX (v := (-1)) (by decide) dX7_ill_7 ?_
    refine aw_finI (hR _ _ dX7_ill_8) ?_ ?_
    · rfl
    · rfl
set_option maxHeartbeats 4000000 in
set_option maxRecDepth 100000 in
theorem m_X7_ill_ok (d : Nat) (G : GT) (S : St) (k : Nat) (hk : k < 4) (a b : Bool) (ha : S.2.1 9 k = bI a) : rX7_ill G (d + 3) [.ref (gad G 0), .int (nI k), .int (bI b)] S (some (.int (bI a))) (sA S 9 k (bI b)) := by
  refine runs_I (d := (d + 2)) (by decide) (Nat.le_of_ble_eq_true rfl) (fun X (hX : XC X G (d + 2) RX7 cX7_ill 4) hR => ?_)
  show AW X G 0 [.ref (gad G 0), .int (nI k), .int (bI b), .null] [] S
  refine aw_iload_1 hX dX7_ill_0 ?_
  refine cs_X7_isHand hX ml_X7_115 dX7_ill_1 (m_X7_isHand_b _ G S _ true (by rw [inR_nI (by omega) (by omega) (by omega)]; simp; omega)) (Nat.le_of_ble_eq_true rfl) ?_
  first | with_reducible refine aw_ifneB hX (tgt := 9) dX7_ill_4 (by decide) (fun c_4 => ?_) (fun c_4 => ?_) | refine aw_ifne hX (tgt := 9) dX7_ill_4 (by decide) (fun c_4 => ?_) (fun c_4 => ?_)
  · skip
    refine aw_aload_0 hX dX7_ill_9 ?_
    refine ag_X7_handIsIll hX fl_X7_58 dX7_ill_10 ?_
    refine aw_iload_1 hX dX7_ill_13 ?_
    refine aw_zald hX dX7_ill_14 rfl (by decide) (by omega) ?_
    refine aw_ti ha ?_
    refine cs_X7_asNumber hX ml_X7_164 dX7_ill_15 (m_X7_asNumber _ G S _) (Nat.le_of_ble_eq_true rfl) ?_
    refine aw_istore_3 hX rfl (by decide) dX7_ill_18 ?_
    refine aw_aload_0 hX dX7_ill_19 ?_
    refine ag_X7_handIsIll hX fl_X7_58 dX7_ill_20 ?_
    refine aw_iload_1 hX dX7_ill_23 ?_
    refine aw_iload_2 hX dX7_ill_24 ?_
    refine aw_zast hX dX7_ill_25 rfl (fun _ => rfl) (by decide) (by omega) ?_
    refine aw_iload_3 hX dX7_ill_26 ?_
    refine aw_finI (hR _ _ dX7_ill_27) ?_ ?_
    · rfl
    · rfl
  · cases c_4
set_option maxHeartbeats 4000000 in
set_option maxRecDepth 100000 in
theorem m_X7_fees_bad (d : Nat) (G : GT) (S : St) (hd w : Int32) (h : inR hd (nI 0) (nI 3) = false) : rX7_fees G (d + 3) [.ref (gad G 0), .int hd, .int w] S (some (.int (-1))) S := by
  refine runs_I (d := (d + 2)) (by decide) (Nat.le_of_ble_eq_true rfl) (fun X (hX : XC X G (d + 2) RX7 cX7_fees 3) hR => ?_)
  show AW X G 0 [.ref (gad G 0), .int hd, .int w] [] S
  refine aw_iload_1 hX dX7_fees_0 ?_
  refine cs_X7_isHand hX ml_X7_115 dX7_fees_1 (m_X7_isHand_b _ G S _ false h) (Nat.le_of_ble_eq_true rfl) ?_
  first | with_reducible refine aw_ifneB hX (tgt := 9) dX7_fees_4 (by decide) (fun c_4 => ?_) (fun c_4 => ?_) | refine aw_ifne hX (tgt := 9) dX7_fees_4 (by decide) (fun c_4 => ?_) (fun c_4 => ?_)
  · cases c_4
  · skip
    refine aw_iconst hX (v := (-1)) (by decide) dX7_fees_7 ?_
    refine aw_finI (hR _ _ dX7_fees_8) ?_ ?_
    · rfl
    · rfl
set_option maxHeartbeats 4000000 in
set_option maxRecDepth 100000 in
theorem m_X7_fees_out (d : Nat) (G : GT) (S : St) (hd w : Int32) (h : inR hd (nI 0) (nI 3) = true) (h0 : ¬ w = nI 0) (h1 : ¬ w = nI 1) : rX7_fees G (d + 3) [.ref (gad G 0), .int hd, .int w] S (some (.int (-1))) S := by
  refine runs_I (d := (d + 2)) (by decide) (Nat.le_of_ble_eq_true rfl) (fun X (hX : XC X G (d + 2) RX7 cX7_fees 3) hR => ?_)
  show AW X G 0 [.ref (gad G 0), .int hd, .int w] [] S
  refine aw_iload_1 hX dX7_fees_0 ?_
  refine cs_X7_isHand hX ml_X7_115 dX7_fees_1 (m_X7_isHand_b _ G S _ true h) (Nat.le_of_ble_eq_true rfl) ?_
  first | with_reducible refine aw_ifneB hX (tgt := 9) dX7_fees_4 (by decide) (fun c_4 => ?_) (fun c_4 => ?_) | refine aw_ifne hX (tgt := 9) dX7_fees_4 (by decide) (fun c_4 => ?_) (fun c_4 => ?_)
  · skip
    refine aw_iload_2 hX dX7_fees_9 ?_
    refine aw_lookup hX (off := 44) (tgt := 54) dX7_fees_10 (by decide) ((lv_osw h0 (by decide)).trans ((lv_osw h1 (by decide)).trans rfl)) (by decide) ?_
    refine aw_iconst hX (v := (-1)) (by decide) dX7_fees_54 ?_
    refine aw_finI (hR _ _ dX7_fees_55) ?_ ?_
    · rfl
    · rfl
  · cases c_4
set_option maxHeartbeats 4000000 in
set_option maxRecDepth 100000 in
theorem m_X7_fees_0 (d : Nat) (G : GT) (S : St) (hd : Int32) (h : inR hd (nI 0) (nI 3) = true) (hs : S.1 10 ≤ 100) : rX7_fees G (d + 3) [.ref (gad G 0), .int hd, .int (nI 0)] S (some (.int (erL (S.2.1 38) (S.2.1 39) hd (S.1 10)))) S := by
  refine runs_I (d := (d + 2)) (by decide) (Nat.le_of_ble_eq_true rfl) (fun X (hX : XC X G (d + 2) RX7 cX7_fees 3) hR => ?_)
  show AW X G 0 [.ref (gad G 0), .int hd, .int (nI 0)] [] S
  refine aw_iload_1 hX dX7_fees_0 ?_
  refine cs_X7_isHand hX ml_X7_115 dX7_fees_1 (m_X7_isHand_b _ G S _ true h) (Nat.le_of_ble_eq_true rfl) ?_
  first | with_reducible refine aw_ifneB hX (tgt := 9) dX7_fees_4 (by decide) (fun c_4 => ?_) (fun c_4 => ?_) | refine aw_ifne hX (tgt := 9) dX7_fees_4 (by decide) (fun c_4 => ?_) (fun c_4 => ?_)
  · skip
    refine aw_iload_2 hX dX7_fees_9 ?_
    refine aw_lookup hX (x := nI 0) (off := 26) (tgt := 36) dX7_fees_10 (by decide) (by decide) (by decide) ?_
    refine aw_aload_0 hX dX7_fees_36 ?_
    refine ag_X7_sweeps hX fl_X7_47 dX7_fees_37 ?_
    refine aw_iload_1 hX dX7_fees_40 ?_
    refine cv_X5_earnedBy hX ml_X7_204 dX7_fees_41 (m_X5_earnedBy _ G S _ hs) (Nat.le_of_ble_eq_true rfl) ?_
    refine aw_finI (hR _ _ dX7_fees_44) ?_ ?_
    · rfl
    · rfl
  · cases c_4
set_option maxHeartbeats 4000000 in
set_option maxRecDepth 100000 in
theorem m_X7_fees_1 (d : Nat) (G : GT) (S : St) (hd : Int32) (h : inR hd (nI 0) (nI 3) = true) (hs : S.1 10 ≤ 100) : rX7_fees G (d + 3) [.ref (gad G 0), .int hd, .int (nI 1)] S (some (.int (erL (S.2.1 38) (fun _ => nI 1) hd (S.1 10)))) S := by
  refine runs_I (d := (d + 2)) (by decide) (Nat.le_of_ble_eq_true rfl) (fun X (hX : XC X G (d + 2) RX7 cX7_fees 3) hR => ?_)
  show AW X G 0 [.ref (gad G 0), .int hd, .int (nI 1)] [] S
  refine aw_iload_1 hX dX7_fees_0 ?_
  refine cs_X7_isHand hX ml_X7_115 dX7_fees_1 (m_X7_isHand_b _ G S _ true h) (Nat.le_of_ble_eq_true rfl) ?_
  first | with_reducible refine aw_ifneB hX (tgt := 9) dX7_fees_4 (by decide) (fun c_4 => ?_) (fun c_4 => ?_) | refine aw_ifne hX (tgt := 9) dX7_fees_4 (by decide) (fun c_4 => ?_) (fun c_4 => ?_)
  · skip
    refine aw_iload_2 hX dX7_fees_9 ?_
    refine aw_lookup hX (x := nI 1) (off := 35) (tgt := 45) dX7_fees_10 (by decide) (by decide) (by decide) ?_
    refine aw_aload_0 hX dX7_fees_45 ?_
    refine ag_X7_sweeps hX fl_X7_47 dX7_fees_46 ?_
    refine aw_iload_1 hX dX7_fees_49 ?_
    refine cv_X5_doneBy hX ml_X7_207 dX7_fees_50 (m_X5_doneBy _ G S _ hs) (Nat.le_of_ble_eq_true rfl) ?_
    refine aw_finI (hR _ _ dX7_fees_53) ?_ ?_
    · rfl
    · rfl
  · cases c_4
set_option maxHeartbeats 4000000 in
set_option maxRecDepth 100000 in
theorem m_X7_at_bad (d : Nat) (G : GT) (S : St) (n : Int32) (h : inR n (nI 0) (nI 6) = false) : rX7_at G (d + 2) [.ref (gad G 0), .int n] S (some (.int (-1))) S := by
  refine runs_I (d := (d + 1)) (by decide) (Nat.le_of_ble_eq_true rfl) (fun X (hX : XC X G (d + 1) RX7 cX7_at 2) hR => ?_)
  show AW X G 0 [.ref (gad G 0), .int n] [] S
  refine aw_iload_1 hX dX7_at_0 ?_
  refine aw_iconst hX (v := nI 0) (by decide) dX7_at_1 ?_
  refine aw_bipush hX (v := nI 6) (by decide) dX7_at_2 ?_
  refine cs_X7_within hX ml_X7_73 dX7_at_4 (m_X7_within_b _ G S _ _ _ false h) (Nat.le_of_ble_eq_true rfl) ?_
  first | with_reducible refine aw_ifneB hX (tgt := 12) dX7_at_7 (by decide) (fun c_7 => ?_) (fun c_7 => ?_) | refine aw_ifne hX (tgt := 12) dX7_at_7 (by decide) (fun c_7 => ?_) (fun c_7 => ?_)
  · cases c_7
  · skip
    refine aw_iconst hX (v := (-1)) (by decide) dX7_at_10 ?_
    refine aw_finI (hR _ _ dX7_at_11) ?_ ?_
    · rfl
    · rfl
set_option maxHeartbeats 4000000 in
set_option maxRecDepth 100000 in
theorem m_X7_at_6 (d : Nat) (G : GT) (S : St)  : rX7_at G (d + 2) [.ref (gad G 0), .int (nI 6)] S (some (.int (nI (S.1 12)))) S := by
  refine runs_I (d := (d + 1)) (by decide) (Nat.le_of_ble_eq_true rfl) (fun X (hX : XC X G (d + 1) RX7 cX7_at 2) hR => ?_)
  show AW X G 0 [.ref (gad G 0), .int (nI 6)] [] S
  refine aw_iload_1 hX dX7_at_0 ?_
  refine aw_iconst hX (v := nI 0) (by decide) dX7_at_1 ?_
  refine aw_bipush hX (v := nI 6) (by decide) dX7_at_2 ?_
  refine cs_X7_within hX ml_X7_73 dX7_at_4 (m_X7_within_b _ G S _ _ _ true (by decide)) (Nat.le_of_ble_eq_true rfl) ?_
  first | with_reducible refine aw_ifneB hX (tgt := 12) dX7_at_7 (by decide) (fun c_7 => ?_) (fun c_7 => ?_) | refine aw_ifne hX (tgt := 12) dX7_at_7 (by decide) (fun c_7 => ?_) (fun c_7 => ?_)
  · skip
    refine aw_iload_1 hX dX7_at_12 ?_
    refine aw_bipush hX (v := nI 6) (by decide) dX7_at_13 ?_
    first | with_reducible refine aw_icmpneN hX (tgt := 28) dX7_at_15 (by decide) (by omega) (by omega) (fun c_15 => ?_) (fun c_15 => ?_) | refine aw_icmpne hX (tgt := 28) dX7_at_15 (by decide) (fun c_15 => ?_) (fun c_15 => ?_)
    · exact absurd rfl c_15
    · skip
      refine aw_aload_0 hX dX7_at_18 ?_
      refine ag_X7_tour hX fl_X7_54 dX7_at_19 ?_
      refine ag_X6_way hX fl_X7_237 dX7_at_22 ?_
      refine aw_goto hX (tgt := 36) dX7_at_25 (by decide) ?_
      refine aw_finI (hR _ _ dX7_at_36) ?_ ?_
      · rfl
      · rfl
  · cases c_7
set_option maxHeartbeats 4000000 in
set_option maxRecDepth 100000 in
theorem m_X7_at_ok (d : Nat) (G : GT) (S : St) (k : Nat) (hk : k < 6) (hs : S.1 11 ≤ 6) : rX7_at G (d + 2) [.ref (gad G 0), .int (nI k)] S (some (.int (if k < S.1 11 then S.2.1 45 k else -9))) S := by
  refine runs_I (d := (d + 1)) (by decide) (Nat.le_of_ble_eq_true rfl) (fun X (hX : XC X G (d + 1) RX7 cX7_at 2) hR => ?_)
  show AW X G 0 [.ref (gad G 0), .int (nI k)] [] S
  refine aw_iload_1 hX dX7_at_0 ?_
  refine aw_iconst hX (v := nI 0) (by decide) dX7_at_1 ?_
  refine aw_bipush hX (v := nI 6) (by decide) dX7_at_2 ?_
  refine cs_X7_within hX ml_X7_73 dX7_at_4 (m_X7_within_b _ G S _ _ _ true (by rw [inR_nI (by omega) (by omega) (by omega)]; simp; omega)) (Nat.le_of_ble_eq_true rfl) ?_
  first | with_reducible refine aw_ifneB hX (tgt := 12) dX7_at_7 (by decide) (fun c_7 => ?_) (fun c_7 => ?_) | refine aw_ifne hX (tgt := 12) dX7_at_7 (by decide) (fun c_7 => ?_) (fun c_7 => ?_)
  · skip
    refine aw_iload_1 hX dX7_at_12 ?_
    refine aw_bipush hX (v := nI 6) (by decide) dX7_at_13 ?_
    first | with_reducible refine aw_icmpneN hX (tgt := 28) dX7_at_15 (by decide) (by omega) (by omega) (fun c_15 => ?_) (fun c_15 => ?_) | refine aw_icmpne hX (tgt := 28) dX7_at_15 (by decide) (fun c_15 => ?_) (fun c_15 => ?_)
    · skip
      refine aw_aload_0 hX dX7_at_28 ?_
      refine ag_X7_tour hX fl_X7_54 dX7_at_29 ?_
      refine aw_iload_1 hX dX7_at_32 ?_
      refine cv_X6_flueAt hX ml_X7_240 dX7_at_33 (m_X6_flueAt _ G S k hk hs) (Nat.le_of_ble_eq_true rfl) ?_
      refine aw_finI (hR _ _ dX7_at_36) ?_ ?_
      · rfl
      · rfl
    · exact absurd c_15 (by omega)
  · cases c_7
set_option maxHeartbeats 4000000 in
set_option maxRecDepth 100000 in
theorem m_X7_count_0 (d : Nat) (G : GT) (S : St)  : rX7_count G (d + 1) [.ref (gad G 0), .int (nI 0)] S (some (.int (nI (S.1 7)))) S := by
  refine runs_I (d := d) (by decide) (Nat.le_of_ble_eq_true rfl) (fun X (hX : XC X G d RX7 cX7_count 2) hR => ?_)
  show AW X G 0 [.ref (gad G 0), .int (nI 0)] [] S
  refine aw_iload_1 hX dX7_count_0 ?_
  refine aw_tabIn hX (x := nI 0) (off := 43) (tgt := 44) dX7_count_1 (by decide) (by decide) (by decide) (by decide) ?_
  refine aw_aload_0 hX dX7_count_44 ?_
  refine ag_X7_flues hX fl_X7_26 dX7_count_45 ?_
  refine ag_X2_size hX fl_X7_174 dX7_count_48 ?_
  refine aw_finI (hR _ _ dX7_count_51) ?_ ?_
  · rfl
  · rfl
set_option maxHeartbeats 4000000 in
set_option maxRecDepth 100000 in
theorem m_X7_count_1 (d : Nat) (G : GT) (S : St)  : rX7_count G (d + 1) [.ref (gad G 0), .int (nI 1)] S (some (.int (nI (S.1 0)))) S := by
  refine runs_I (d := d) (by decide) (Nat.le_of_ble_eq_true rfl) (fun X (hX : XC X G d RX7 cX7_count 2) hR => ?_)
  show AW X G 0 [.ref (gad G 0), .int (nI 1)] [] S
  refine aw_iload_1 hX dX7_count_0 ?_
  refine aw_tabIn hX (x := nI 1) (off := 51) (tgt := 52) dX7_count_1 (by decide) (by decide) (by decide) (by decide) ?_
  refine aw_aload_0 hX dX7_count_52 ?_
  refine ag_X7_today hX fl_X7_62 dX7_count_53 ?_
  refine aw_finI (hR _ _ dX7_count_56) ?_ ?_
  · rfl
  · rfl
set_option maxHeartbeats 4000000 in
set_option maxRecDepth 100000 in
theorem m_X7_count_2 (d : Nat) (G : GT) (S : St)  : rX7_count G (d + 1) [.ref (gad G 0), .int (nI 2)] S (some (.int (nI (S.1 2)))) S := by
  refine runs_I (d := d) (by decide) (Nat.le_of_ble_eq_true rfl) (fun X (hX : XC X G d RX7 cX7_count 2) hR => ?_)
  show AW X G 0 [.ref (gad G 0), .int (nI 2)] [] S
  refine aw_iload_1 hX dX7_count_0 ?_
  refine aw_tabIn hX (x := nI 2) (off := 56) (tgt := 57) dX7_count_1 (by decide) (by decide) (by decide) (by decide) ?_
  refine aw_aload_0 hX dX7_count_57 ?_
  refine ag_X7_draft hX fl_X7_10 dX7_count_58 ?_
  refine ag_X0_size hX fl_X7_85 dX7_count_61 ?_
  refine aw_finI (hR _ _ dX7_count_64) ?_ ?_
  · rfl
  · rfl
set_option maxHeartbeats 4000000 in
set_option maxRecDepth 100000 in
theorem m_X7_count_3 (d : Nat) (G : GT) (S : St)  : rX7_count G (d + 1) [.ref (gad G 0), .int (nI 3)] S (some (.int (nI (S.1 6)))) S := by
  refine runs_I (d := d) (by decide) (Nat.le_of_ble_eq_true rfl) (fun X (hX : XC X G d RX7 cX7_count 2) hR => ?_)
  show AW X G 0 [.ref (gad G 0), .int (nI 3)] [] S
  refine aw_iload_1 hX dX7_count_0 ?_
  refine aw_tabIn hX (x := nI 3) (off := 64) (tgt := 65) dX7_count_1 (by decide) (by decide) (by decide) (by decide) ?_
  refine aw_aload_0 hX dX7_count_65 ?_
  refine ag_X7_book hX fl_X7_19 dX7_count_66 ?_
  refine ag_X3_size hX fl_X7_243 dX7_count_69 ?_
  refine aw_finI (hR _ _ dX7_count_72) ?_ ?_
  · rfl
  · rfl
set_option maxHeartbeats 4000000 in
set_option maxRecDepth 100000 in
theorem m_X7_count_4 (d : Nat) (G : GT) (S : St)  : rX7_count G (d + 1) [.ref (gad G 0), .int (nI 4)] S (some (.int (nI (S.1 8)))) S := by
  refine runs_I (d := d) (by decide) (Nat.le_of_ble_eq_true rfl) (fun X (hX : XC X G d RX7 cX7_count 2) hR => ?_)
  show AW X G 0 [.ref (gad G 0), .int (nI 4)] [] S
  refine aw_iload_1 hX dX7_count_0 ?_
  refine aw_tabIn hX (x := nI 4) (off := 72) (tgt := 73) dX7_count_1 (by decide) (by decide) (by decide) (by decide) ?_
  refine aw_aload_0 hX dX7_count_73 ?_
  refine ag_X7_looks hX fl_X7_33 dX7_count_74 ?_
  refine ag_X4_size hX fl_X7_244 dX7_count_77 ?_
  refine aw_finI (hR _ _ dX7_count_80) ?_ ?_
  · rfl
  · rfl
set_option maxHeartbeats 4000000 in
set_option maxRecDepth 100000 in
theorem m_X7_count_5 (d : Nat) (G : GT) (S : St)  : rX7_count G (d + 1) [.ref (gad G 0), .int (nI 5)] S (some (.int (nI (S.1 9)))) S := by
  refine runs_I (d := d) (by decide) (Nat.le_of_ble_eq_true rfl) (fun X (hX : XC X G d RX7 cX7_count 2) hR => ?_)
  show AW X G 0 [.ref (gad G 0), .int (nI 5)] [] S
  refine aw_iload_1 hX dX7_count_0 ?_
  refine aw_tabIn hX (x := nI 5) (off := 80) (tgt := 81) dX7_count_1 (by decide) (by decide) (by decide) (by decide) ?_
  refine aw_aload_0 hX dX7_count_81 ?_
  refine ag_X7_fires hX fl_X7_40 dX7_count_82 ?_
  refine ag_X1_size hX fl_X7_245 dX7_count_85 ?_
  refine aw_finI (hR _ _ dX7_count_88) ?_ ?_
  · rfl
  · rfl
set_option maxHeartbeats 4000000 in
set_option maxRecDepth 100000 in
theorem m_X7_count_6 (d : Nat) (G : GT) (S : St)  : rX7_count G (d + 1) [.ref (gad G 0), .int (nI 6)] S (some (.int (nI (S.1 10)))) S := by
  refine runs_I (d := d) (by decide) (Nat.le_of_ble_eq_true rfl) (fun X (hX : XC X G d RX7 cX7_count 2) hR => ?_)
  show AW X G 0 [.ref (gad G 0), .int (nI 6)] [] S
  refine aw_iload_1 hX dX7_count_0 ?_
  refine aw_tabIn hX (x := nI 6) (off := 88) (tgt := 89) dX7_count_1 (by decide) (by decide) (by decide) (by decide) ?_
  refine aw_aload_0 hX dX7_count_89 ?_
  refine ag_X7_sweeps hX fl_X7_47 dX7_count_90 ?_
  refine ag_X5_size hX fl_X7_246 dX7_count_93 ?_
  refine aw_finI (hR _ _ dX7_count_96) ?_ ?_
  · rfl
  · rfl
set_option maxHeartbeats 4000000 in
set_option maxRecDepth 100000 in
theorem m_X7_count_out (d : Nat) (G : GT) (S : St) (w : Int32) (h : inR w (nI 0) (nI 6) = false) : rX7_count G (d + 1) [.ref (gad G 0), .int w] S (some (.int (-1))) S := by
  refine runs_I (d := d) (by decide) (Nat.le_of_ble_eq_true rfl) (fun X (hX : XC X G d RX7 cX7_count 2) hR => ?_)
  show AW X G 0 [.ref (gad G 0), .int w] [] S
  refine aw_iload_1 hX dX7_count_0 ?_
  refine aw_tabOut hX (tgt := 97) dX7_count_1 (inR_out h (by decide)) (by decide) ?_
  refine aw_iconst hX (v := (-1)) (by decide) dX7_count_97 ?_
  refine aw_finI (hR _ _ dX7_count_98) ?_ ?_
  · rfl
  · rfl
set_option maxHeartbeats 4000000 in
set_option maxRecDepth 100000 in
theorem m_X7_trace (d : Nat) (G : GT) (S : St)  : rX7_trace G (d + 1) [.ref (gad G 0)] S (some (.long (S.2.2.1 0))) S := by
  refine runs_L (d := d) (by decide) (Nat.le_of_ble_eq_true rfl) (fun X (hX : XC X G d RX7 cX7_trace 1) hR => ?_)
  show AW X G 0 [.ref (gad G 0)] [] S
  refine aw_aload_0 hX dX7_trace_0 ?_
  refine ag_X7_asked hX fl_X7_69 dX7_trace_1 ?_
  refine aw_finL (hR _ _ dX7_trace_4) ?_ ?_
  · rfl
  · rfl
