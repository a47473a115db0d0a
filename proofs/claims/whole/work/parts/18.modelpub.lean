set_option maxHeartbeats 4000000 in
set_option maxRecDepth 100000 in
theorem m_X8_span_bad (d : Nat) (G : GT) (S : St) (h13 : S.1 13 = 0) (fuel day : Int32) (h : (inR fuel (nI 0) (nI 2) && inR day (nI 0) (nI 500)) = false) : rX8_span G (d + 2) [.ref (gad G 8), .int fuel, .int day] S (some (.int (-1))) S := by
  refine runs_I (d := (d + 1)) (by decide) (Nat.le_of_ble_eq_true rfl) (fun X (hX : XC X G (d + 1) RX8 cX8_span 3) hR => ?_)
  show AW X G 0 [.ref (gad G 8), .int fuel, .int day] [] S
  refine aw_aload_0 hX dX8_span_0 ?_
  refine aw_iconst hX (v := nI 0) (by decide) dX8_span_1 ?_
  refine ap_X8_thrown hX fl_X8_57 dX8_span_2 ?_
  refine aw_S (sN_self h13) ?_
  refine aw_iload_1 hX dX8_span_5 ?_
  refine aw_iconst hX (v := nI 0) (by decide) dX8_span_6 ?_
  refine aw_iconst hX (v := nI 2) (by decide) dX8_span_7 ?_
  refine cs_X8_in hX ml_X8_60 dX8_span_8 (m_X8_in _ G S _ _ _) (Nat.le_of_ble_eq_true rfl) ?_
  first | with_reducible refine aw_ifeqB hX (tgt := 34) dX8_span_11 (by decide) (fun c_11 => ?_) (fun c_11 => ?_) | refine aw_ifeq hX (tgt := 34) dX8_span_11 (by decide) (fun c_11 => ?_) (fun c_11 => ?_)
  · skip
    refine aw_iconst hX (v := (-1)) (by decide) dX8_span_34 ?_
    refine aw_finI (hR _ _ dX8_span_35) ?_ ?_
    · rfl
    · rfl
  · skip
    refine aw_iload_2 hX dX8_span_14 ?_
    refine aw_iconst hX (v := nI 0) (by decide) dX8_span_15 ?_
    refine aw_sipush hX (v := nI 500) (by decide) dX8_span_16 ?_
    refine cs_X8_in hX ml_X8_60 dX8_span_19 (m_X8_in _ G S _ _ _) (Nat.le_of_ble_eq_true rfl) ?_
    first | with_reducible refine aw_ifeqB hX (tgt := 34) dX8_span_22 (by decide) (fun c_22 => ?_) (fun c_22 => ?_) | refine aw_ifeq hX (tgt := 34) dX8_span_22 (by decide) (fun c_22 => ?_) (fun c_22 => ?_)
    · skip
      refine aw_iconst hX (v := (-1)) (by decide) dX8_span_34 ?_
      refine aw_finI (hR _ _ dX8_span_35) ?_ ?_
      · rfl
      · rfl
    · simp [c_11, c_22] at h
set_option maxHeartbeats 4000000 in
set_option maxRecDepth 100000 in
theorem m_X8_span_ok (d : Nat) (G : GT) (S : St) (h13 : S.1 13 = 0) (fuel day : Int32) (h1 : inR fuel (nI 0) (nI 2) = true) (h2 : inR day (nI 0) (nI 500) = true) (hb : BmOK S) : rX8_span G (d + 2) [.ref (gad G 8), .int fuel, .int day] S (some (.int (spM S fuel day))) S := by
  refine runs_I (d := (d + 1)) (by decide) (Nat.le_of_ble_eq_true rfl) (fun X (hX : XC X G (d + 1) RX8 cX8_span 3) hR => ?_)
  show AW X G 0 [.ref (gad G 8), .int fuel, .int day] [] S
  refine aw_aload_0 hX dX8_span_0 ?_
  refine aw_iconst hX (v := nI 0) (by decide) dX8_span_1 ?_
  refine ap_X8_thrown hX fl_X8_57 dX8_span_2 ?_
  refine aw_S (sN_self h13) ?_
  refine aw_iload_1 hX dX8_span_5 ?_
  refine aw_iconst hX (v := nI 0) (by decide) dX8_span_6 ?_
  refine aw_iconst hX (v := nI 2) (by decide) dX8_span_7 ?_
  refine cs_X8_in hX ml_X8_60 dX8_span_8 (m_X8_in_b _ G S _ _ _ true h1) (Nat.le_of_ble_eq_true rfl) ?_
  first | with_reducible refine aw_ifeqB hX (tgt := 34) dX8_span_11 (by decide) (fun c_11 => ?_) (fun c_11 => ?_) | refine aw_ifeq hX (tgt := 34) dX8_span_11 (by decide) (fun c_11 => ?_) (fun c_11 => ?_)
  · cases c_11
  · skip
    refine aw_iload_2 hX dX8_span_14 ?_
    refine aw_iconst hX (v := nI 0) (by decide) dX8_span_15 ?_
    refine aw_sipush hX (v := nI 500) (by decide) dX8_span_16 ?_
    refine cs_X8_in hX ml_X8_60 dX8_span_19 (m_X8_in_b _ G S _ _ _ true h2) (Nat.le_of_ble_eq_true rfl) ?_
    first | with_reducible refine aw_ifeqB hX (tgt := 34) dX8_span_22 (by decide) (fun c_22 => ?_) (fun c_22 => ?_) | refine aw_ifeq hX (tgt := 34) dX8_span_22 (by decide) (fun c_22 => ?_) (fun c_22 => ?_)
    · cases c_22
    · skip
      refine aw_aload_0 hX dX8_span_25 ?_
      refine aw_iload_1 hX dX8_span_26 ?_
      refine aw_iload_2 hX dX8_span_27 ?_
      refine cv_X8_spanBy hX ml_X8_89 dX8_span_28 (m_X8_spanBy _ G S _ _ hb) (Nat.le_of_ble_eq_true rfl) ?_
      refine aw_goto hX (tgt := 35) dX8_span_31 (by decide) ?_
      refine aw_finI (hR _ _ dX8_span_35) ?_ ?_
      · rfl
      · rfl
set_option maxHeartbeats 4000000 in
set_option maxRecDepth 100000 in
theorem m_X8_days_bad (d : Nat) (G : GT) (S : St) (h13 : S.1 13 = 0) (n : Int32) (h : inR n (nI 1) (nI 50) = false) : rX8_days G (d + 2) [.ref (gad G 8), .int n] S (some (.int (-1))) S := by
  refine runs_I (d := (d + 1)) (by decide) (Nat.le_of_ble_eq_true rfl) (fun X (hX : XC X G (d + 1) RX8 cX8_days 2) hR => ?_)
  show AW X G 0 [.ref (gad G 8), .int n] [] S
  refine aw_aload_0 hX dX8_days_0 ?_
  refine aw_iconst hX (v := nI 0) (by decide) dX8_days_1 ?_
  refine ap_X8_thrown hX fl_X8_57 dX8_days_2 ?_
  refine aw_S (sN_self h13) ?_
  refine aw_iload_1 hX dX8_days_5 ?_
  refine aw_iconst hX (v := nI 1) (by decide) dX8_days_6 ?_
  refine aw_bipush hX (v := nI 50) (by decide) dX8_days_7 ?_
  refine cs_X8_in hX ml_X8_60 dX8_days_9 (m_X8_in_b _ G S _ _ _ false h) (Nat.le_of_ble_eq_true rfl) ?_
  first | with_reducible refine aw_ifneB hX (tgt := 17) dX8_days_12 (by decide) (fun c_12 => ?_) (fun c_12 => ?_) | refine aw_ifne hX (tgt := 17) dX8_days_12 (by decide) (fun c_12 => ?_) (fun c_12 => ?_)
  · cases c_12
  · skip
    refine aw_iconst hX (v := (-1)) (by decide) dX8_days_15 ?_
    refine aw_finI (hR _ _ dX8_days_16) ?_ ?_
    · rfl
    · rfl
set_option maxHeartbeats 4000000 in
set_option maxRecDepth 100000 in
theorem m_X8_days_state (d : Nat) (G : GT) (S : St) (h13 : S.1 13 = 0) (k : Nat) (hk : 1 ≤ k) (hk5 : k ≤ 50) (h0 : S.1 14 ≤ 500) (h : 500 < S.1 14 + k) : rX8_days G (d + 2) [.ref (gad G 8), .int (nI k)] S (some (.int (-2))) S := by
  refine runs_I (d := (d + 1)) (by decide) (Nat.le_of_ble_eq_true rfl) (fun X (hX : XC X G (d + 1) RX8 cX8_days 2) hR => ?_)
  show AW X G 0 [.ref (gad G 8), .int (nI k)] [] S
  refine aw_aload_0 hX dX8_days_0 ?_
  refine aw_iconst hX (v := nI 0) (by decide) dX8_days_1 ?_
  refine ap_X8_thrown hX fl_X8_57 dX8_days_2 ?_
  refine aw_S (sN_self h13) ?_
  refine aw_iload_1 hX dX8_days_5 ?_
  refine aw_iconst hX (v := nI 1) (by decide) dX8_days_6 ?_
  refine aw_bipush hX (v := nI 50) (by decide) dX8_days_7 ?_
  refine cs_X8_in hX ml_X8_60 dX8_days_9 (m_X8_in_b _ G S _ _ _ true (by rw [inR_nI (by omega) (by omega) (by omega)]; simp; omega)) (Nat.le_of_ble_eq_true rfl) ?_
  first | with_reducible refine aw_ifneB hX (tgt := 17) dX8_days_12 (by decide) (fun c_12 => ?_) (fun c_12 => ?_) | refine aw_ifne hX (tgt := 17) dX8_days_12 (by decide) (fun c_12 => ?_) (fun c_12 => ?_)
  · skip
    refine aw_aload_0 hX dX8_days_17 ?_
    refine ag_X8_today hX fl_X8_86 dX8_days_18 ?_
    refine aw_iload_1 hX dX8_days_21 ?_
    first | with_reducible refine aw_iaddN hX dX8_days_22 ?_ | refine aw_iadd hX dX8_days_22 ?_
    refine aw_sipush hX (v := nI 500) (by decide) dX8_days_23 ?_
    first | with_reducible refine aw_icmpleN hX (tgt := 32) dX8_days_26 (by decide) (by omega) (by omega) (fun c_26 => ?_) (fun c_26 => ?_) | refine aw_jle hX (tgt := 32) dX8_days_26 (by decide) (fun c_26 => ?_) (fun c_26 => ?_)
    · exact absurd c_26 (by omega)
    · skip
      refine aw_bipush hX (v := (-2)) (by decide) dX8_days_29 ?_
      refine aw_finI (hR _ _ dX8_days_31) ?_ ?_
      · rfl
      · rfl
  · cases c_12
set_option maxHeartbeats 4000000 in
set_option maxRecDepth 100000 in
theorem m_X8_days_ok (d : Nat) (G : GT) (S : St) (h13 : S.1 13 = 0) (k : Nat) (hk : 1 ≤ k) (hk5 : k ≤ 50) (h : S.1 14 + k ≤ 500) : rX8_days G (d + 2) [.ref (gad G 8), .int (nI k)] S (some (.int (nI (S.1 14 + k)))) (sN S 14 (S.1 14 + k)) := by
  refine runs_I (d := (d + 1)) (by decide) (Nat.le_of_ble_eq_true rfl) (fun X (hX : XC X G (d + 1) RX8 cX8_days 2) hR => ?_)
  show AW X G 0 [.ref (gad G 8), .int (nI k)] [] S
  refine aw_aload_0 hX dX8_days_0 ?_
  refine aw_iconst hX (v := nI 0) (by decide) dX8_days_1 ?_
  refine ap_X8_thrown hX fl_X8_57 dX8_days_2 ?_
  refine aw_S (sN_self h13) ?_
  refine aw_iload_1 hX dX8_days_5 ?_
  refine aw_iconst hX (v := nI 1) (by decide) dX8_days_6 ?_
  refine aw_bipush hX (v := nI 50) (by decide) dX8_days_7 ?_
  refine cs_X8_in hX ml_X8_60 dX8_days_9 (m_X8_in_b _ G S _ _ _ true (by rw [inR_nI (by omega) (by omega) (by omega)]; simp; omega)) (Nat.le_of_ble_eq_true rfl) ?_
  first | with_reducible refine aw_ifneB hX (tgt := 17) dX8_days_12 (by decide) (fun c_12 => ?_) (fun c_12 => ?_) | refine aw_ifne hX (tgt := 17) dX8_days_12 (by decide) (fun c_12 => ?_) (fun c_12 => ?_)
  · skip
    refine aw_aload_0 hX dX8_days_17 ?_
    refine ag_X8_today hX fl_X8_86 dX8_days_18 ?_
    refine aw_iload_1 hX dX8_days_21 ?_
    first | with_reducible refine aw_iaddN hX dX8_days_22 ?_ | refine aw_iadd hX dX8_days_22 ?_
    refine aw_sipush hX (v := nI 500) (by decide) dX8_days_23 ?_
    first | with_reducible refine aw_icmpleN hX (tgt := 32) dX8_days_26 (by decide) (by omega) (by omega) (fun c_26 => ?_) (fun c_26 => ?_) | refine aw_jle hX (tgt := 32) dX8_days_26 (by decide) (fun c_26 => ?_) (fun c_26 => ?_)
    · skip
      refine aw_aload_0 hX dX8_days_32 ?_
      refine aw_dup hX rfl dX8_days_33 ?_
      refine ag_X8_today hX fl_X8_86 dX8_days_34 ?_
      refine aw_iload_1 hX dX8_days_37 ?_
      first | with_reducible refine aw_iaddN hX dX8_days_38 ?_ | refine aw_iadd hX dX8_days_38 ?_
      refine ap_X8_today hX fl_X8_86 dX8_days_39 ?_
      refine aw_aload_0 hX dX8_days_42 ?_
      refine ag_X8_today hX fl_X8_86 dX8_days_43 ?_
      try simp only [sN_N, sN_A, sN_L, sN_R, sA_N, sA_A, sA_L, sA_R, sL_N, sL_A, sL_L, sL_R, sR_N, sR_A, sR_L, sR_R, reduceIte]
      refine aw_finI (hR _ _ dX8_days_46) ?_ ?_
      · rfl
      · rfl
    · exact absurd c_26 (by omega)
  · cases c_12
set_option maxHeartbeats 4000000 in
set_option maxRecDepth 100000 in
theorem m_X8_flue_bad (d : Nat) (G : GT) (S : St) (h13 : S.1 13 = 0) (k f h w b x y hd : Int32) (hb : ((inR k (nI 0) (nI 2) && inR f (nI 0) (nI 2) && inR h (nI 1) (nI 30) && inR w (nI 10) (nI 40) && inR b (nI 0) (nI 4)) && (inR x (nI 0) (nI 20) && inR y (nI 0) (nI 20)) && inR hd (nI 0) (nI 3)) = false) : rX8_flue G (d + 2) [.ref (gad G 8), .int k, .int f, .int h, .int w, .int b, .int x, .int y, .int hd] S (some (.int (-1))) S := by
  refine runs_I (d := (d + 1)) (by decide) (Nat.le_of_ble_eq_true rfl) (fun X (hX : XC X G (d + 1) RX8 cX8_flue 10) hR => ?_)
  show AW X G 0 [.ref (gad G 8), .int k, .int f, .int h, .int w, .int b, .int x, .int y, .int hd, .null] [] S
  refine aw_aload_0 hX dX8_flue_0 ?_
  refine aw_iconst hX (v := nI 0) (by decide) dX8_flue_1 ?_
  refine ap_X8_thrown hX fl_X8_57 dX8_flue_2 ?_
  refine aw_S (sN_self h13) ?_
  refine aw_iload_1 hX dX8_flue_5 ?_
  refine aw_iconst hX (v := nI 0) (by decide) dX8_flue_6 ?_
  refine aw_iconst hX (v := nI 2) (by decide) dX8_flue_7 ?_
  refine cs_X8_in hX ml_X8_60 dX8_flue_8 (m_X8_in _ G S _ _ _) (Nat.le_of_ble_eq_true rfl) ?_
  first | with_reducible refine aw_ifeqB hX (tgt := 87) dX8_flue_11 (by decide) (fun c_11 => ?_) (fun c_11 => ?_) | refine aw_ifeq hX (tgt := 87) dX8_flue_11 (by decide) (fun c_11 => ?_) (fun c_11 => ?_)
  · skip
    refine aw_iconst hX (v := (-1)) (by decide) dX8_flue_87 ?_
    refine aw_finI (hR _ _ dX8_flue_88) ?_ ?_
    · rfl
    · rfl
  · skip
    refine aw_iload_2 hX dX8_flue_14 ?_
    refine aw_iconst hX (v := nI 0) (by decide) dX8_flue_15 ?_
    refine aw_iconst hX (v := nI 2) (by decide) dX8_flue_16 ?_
    refine cs_X8_in hX ml_X8_60 dX8_flue_17 (m_X8_in _ G S _ _ _) (Nat.le_of_ble_eq_true rfl) ?_
    first | with_reducible refine aw_ifeqB hX (tgt := 87) dX8_flue_20 (by decide) (fun c_20 => ?_) (fun c_20 => ?_) | refine aw_ifeq hX (tgt := 87) dX8_flue_20 (by decide) (fun c_20 => ?_) (fun c_20 => ?_)
    · skip
      refine aw_iconst hX (v := (-1)) (by decide) dX8_flue_87 ?_
      refine aw_finI (hR _ _ dX8_flue_88) ?_ ?_
      · rfl
      · rfl
    · skip
      refine aw_iload_3 hX dX8_flue_23 ?_
      refine aw_iconst hX (v := nI 1) (by decide) dX8_flue_24 ?_
      refine aw_bipush hX (v := nI 30) (by decide) dX8_flue_25 ?_
      refine cs_X8_in hX ml_X8_60 dX8_flue_27 (m_X8_in _ G S _ _ _) (Nat.le_of_ble_eq_true rfl) ?_
      first | with_reducible refine aw_ifeqB hX (tgt := 87) dX8_flue_30 (by decide) (fun c_30 => ?_) (fun c_30 => ?_) | refine aw_ifeq hX (tgt := 87) dX8_flue_30 (by decide) (fun c_30 => ?_) (fun c_30 => ?_)
      · skip
        refine aw_iconst hX (v := (-1)) (by decide) dX8_flue_87 ?_
        refine aw_finI (hR _ _ dX8_flue_88) ?_ ?_
        · rfl
        · rfl
      · skip
        refine aw_iload_4 hX dX8_flue_33 ?_
        refine aw_bipush hX (v := nI 10) (by decide) dX8_flue_35 ?_
        refine aw_bipush hX (v := nI 40) (by decide) dX8_flue_37 ?_
        refine cs_X8_in hX ml_X8_60 dX8_flue_39 (m_X8_in _ G S _ _ _) (Nat.le_of_ble_eq_true rfl) ?_
        first | with_reducible refine aw_ifeqB hX (tgt := 87) dX8_flue_42 (by decide) (fun c_42 => ?_) (fun c_42 => ?_) | refine aw_ifeq hX (tgt := 87) dX8_flue_42 (by decide) (fun c_42 => ?_) (fun c_42 => ?_)
        · skip
          refine aw_iconst hX (v := (-1)) (by decide) dX8_flue_87 ?_
          refine aw_finI (hR _ _ dX8_flue_88) ?_ ?_
          · rfl
          · rfl
        · skip
          refine aw_iload_5 hX dX8_flue_45 ?_
          refine aw_iconst hX (v := nI 0) (by decide) dX8_flue_47 ?_
          refine aw_iconst hX (v := nI 4) (by decide) dX8_flue_48 ?_
          refine cs_X8_in hX ml_X8_60 dX8_flue_49 (m_X8_in _ G S _ _ _) (Nat.le_of_ble_eq_true rfl) ?_
          first | with_reducible refine aw_ifeqB hX (tgt := 87) dX8_flue_52 (by decide) (fun c_52 => ?_) (fun c_52 => ?_) | refine aw_ifeq hX (tgt := 87) dX8_flue_52 (by decide) (fun c_52 => ?_) (fun c_52 => ?_)
          · skip
            refine aw_iconst hX (v := (-1)) (by decide) dX8_flue_87 ?_
            refine aw_finI (hR _ _ dX8_flue_88) ?_ ?_
            · rfl
            · rfl
          · skip
            refine aw_iload_6 hX dX8_flue_55 ?_
            refine aw_iconst hX (v := nI 0) (by decide) dX8_flue_57 ?_
            refine aw_bipush hX (v := nI 20) (by decide) dX8_flue_58 ?_
            refine cs_X8_in hX ml_X8_60 dX8_flue_60 (m_X8_in _ G S _ _ _) (Nat.le_of_ble_eq_true rfl) ?_
            first | with_reducible refine aw_ifeqB hX (tgt := 87) dX8_flue_63 (by decide) (fun c_63 => ?_) (fun c_63 => ?_) | refine aw_ifeq hX (tgt := 87) dX8_flue_63 (by decide) (fun c_63 => ?_) (fun c_63 => ?_)
            · skip
              refine aw_iconst hX (v := (-1)) (by decide) dX8_flue_87 ?_
              refine aw_finI (hR _ _ dX8_flue_88) ?_ ?_
              · rfl
              · rfl
            · skip
              refine aw_iload_7 hX dX8_flue_66 ?_
              refine aw_iconst hX (v := nI 0) (by decide) dX8_flue_68 ?_
              refine aw_bipush hX (v := nI 20) (by decide) dX8_flue_69 ?_
              refine cs_X8_in hX ml_X8_60 dX8_flue_71 (m_X8_in _ G S _ _ _) (Nat.le_of_ble_eq_true rfl) ?_
              first | with_reducible refine aw_ifeqB hX (tgt := 87) dX8_flue_74 (by decide) (fun c_74 => ?_) (fun c_74 => ?_) | refine aw_ifeq hX (tgt := 87) dX8_flue_74 (by decide) (fun c_74 => ?_) (fun c_74 => ?_)
              · skip
                refine aw_iconst hX (v := (-1)) (by decide) dX8_flue_87 ?_
                refine aw_finI (hR _ _ dX8_flue_88) ?_ ?_
                · rfl
                · rfl
              · skip
                refine aw_iload_8 hX dX8_flue_77 ?_
                refine aw_iconst hX (v := nI 0) (by decide) dX8_flue_79 ?_
                refine aw_iconst hX (v := nI 3) (by decide) dX8_flue_80 ?_
                refine cs_X8_in hX ml_X8_60 dX8_flue_81 (m_X8_in _ G S _ _ _) (Nat.le_of_ble_eq_true rfl) ?_
                first | with_reducible refine aw_ifneB hX (tgt := 89) dX8_flue_84 (by decide) (fun c_84 => ?_) (fun c_84 => ?_) | refine aw_ifne hX (tgt := 89) dX8_flue_84 (by decide) (fun c_84 => ?_) (fun c_84 => ?_)
                · simp [c_11, c_20, c_30, c_42, c_52, c_63, c_74, c_84] at hb
                · skip
                  refine aw_iconst hX (v := (-1)) (by decide) dX8_flue_87 ?_
                  refine aw_finI (hR _ _ dX8_flue_88) ?_ ?_
                  · rfl
                  · rfl
set_option maxHeartbeats 4000000 in
set_option maxRecDepth 100000 in
theorem m_X8_flue_full (d : Nat) (G : GT) (S : St) (h13 : S.1 13 = 0) (k f h w b x y hd : Int32) (h1 : (inR k (nI 0) (nI 2) && inR f (nI 0) (nI 2) && inR h (nI 1) (nI 30) && inR w (nI 10) (nI 40) && inR b (nI 0) (nI 4)) = true) (h2 : (inR x (nI 0) (nI 20) && inR y (nI 0) (nI 20)) = true) (h3 : inR hd (nI 0) (nI 3) = true) (hs : S.1 18 = 12) : rX8_flue G (d + 2) [.ref (gad G 8), .int k, .int f, .int h, .int w, .int b, .int x, .int y, .int hd] S (some (.int (-3))) S := by
  simp only [Bool.and_eq_true] at h1 h2
  obtain ⟨⟨⟨⟨g1, g2⟩, g3⟩, g4⟩, g5⟩ := h1
  obtain ⟨g6, g7⟩ := h2
  refine runs_I (d := (d + 1)) (by decide) (Nat.le_of_ble_eq_true rfl) (fun X (hX : XC X G (d + 1) RX8 cX8_flue 10) hR => ?_)
  show AW X G 0 [.ref (gad G 8), .int k, .int f, .int h, .int w, .int b, .int x, .int y, .int hd, .null] [] S
  refine aw_aload_0 hX dX8_flue_0 ?_
  refine aw_iconst hX (v := nI 0) (by decide) dX8_flue_1 ?_
  refine ap_X8_thrown hX fl_X8_57 dX8_flue_2 ?_
  refine aw_S (sN_self h13) ?_
  refine aw_iload_1 hX dX8_flue_5 ?_
  refine aw_iconst hX (v := nI 0) (by decide) dX8_flue_6 ?_
  refine aw_iconst hX (v := nI 2) (by decide) dX8_flue_7 ?_
  refine cs_X8_in hX ml_X8_60 dX8_flue_8 (m_X8_in_b _ G S _ _ _ true g1) (Nat.le_of_ble_eq_true rfl) ?_
  first | with_reducible refine aw_ifeqB hX (tgt := 87) dX8_flue_11 (by decide) (fun c_11 => ?_) (fun c_11 => ?_) | refine aw_ifeq hX (tgt := 87) dX8_flue_11 (by decide) (fun c_11 => ?_) (fun c_11 => ?_)
  · cases c_11
  · skip
    refine aw_iload_2 hX dX8_flue_14 ?_
    refine aw_iconst hX (v := nI 0) (by decide) dX8_flue_15 ?_
    refine aw_iconst hX (v := nI 2) (by decide) dX8_flue_16 ?_
    refine cs_X8_in hX ml_X8_60 dX8_flue_17 (m_X8_in_b _ G S _ _ _ true g2) (Nat.le_of_ble_eq_true rfl) ?_
    first | with_reducible refine aw_ifeqB hX (tgt := 87) dX8_flue_20 (by decide) (fun c_20 => ?_) (fun c_20 => ?_) | refine aw_ifeq hX (tgt := 87) dX8_flue_20 (by decide) (fun c_20 => ?_) (fun c_20 => ?_)
    · cases c_20
    · skip
      refine aw_iload_3 hX dX8_flue_23 ?_
      refine aw_iconst hX (v := nI 1) (by decide) dX8_flue_24 ?_
      refine aw_bipush hX (v := nI 30) (by decide) dX8_flue_25 ?_
      refine cs_X8_in hX ml_X8_60 dX8_flue_27 (m_X8_in_b _ G S _ _ _ true g3) (Nat.le_of_ble_eq_true rfl) ?_
      first | with_reducible refine aw_ifeqB hX (tgt := 87) dX8_flue_30 (by decide) (fun c_30 => ?_) (fun c_30 => ?_) | refine aw_ifeq hX (tgt := 87) dX8_flue_30 (by decide) (fun c_30 => ?_) (fun c_30 => ?_)
      · cases c_30
      · skip
        refine aw_iload_4 hX dX8_flue_33 ?_
        refine aw_bipush hX (v := nI 10) (by decide) dX8_flue_35 ?_
        refine aw_bipush hX (v := nI 40) (by decide) dX8_flue_37 ?_
        refine cs_X8_in hX ml_X8_60 dX8_flue_39 (m_X8_in_b _ G S _ _ _ true g4) (Nat.le_of_ble_eq_true rfl) ?_
        first | with_reducible refine aw_ifeqB hX (tgt := 87) dX8_flue_42 (by decide) (fun c_42 => ?_) (fun c_42 => ?_) | refine aw_ifeq hX (tgt := 87) dX8_flue_42 (by decide) (fun c_42 => ?_) (fun c_42 => ?_)
        · cases c_42
        · skip
          refine aw_iload_5 hX dX8_flue_45 ?_
          refine aw_iconst hX (v := nI 0) (by decide) dX8_flue_47 ?_
          refine aw_iconst hX (v := nI 4) (by decide) dX8_flue_48 ?_
          refine cs_X8_in hX ml_X8_60 dX8_flue_49 (m_X8_in_b _ G S _ _ _ true g5) (Nat.le_of_ble_eq_true rfl) ?_
          first | with_reducible refine aw_ifeqB hX (tgt := 87) dX8_flue_52 (by decide) (fun c_52 => ?_) (fun c_52 => ?_) | refine aw_ifeq hX (tgt := 87) dX8_flue_52 (by decide) (fun c_52 => ?_) (fun c_52 => ?_)
          · cases c_52
          · skip
            refine aw_iload_6 hX dX8_flue_55 ?_
            refine aw_iconst hX (v := nI 0) (by decide) dX8_flue_57 ?_
            refine aw_bipush hX (v := nI 20) (by decide) dX8_flue_58 ?_
            refine cs_X8_in hX ml_X8_60 dX8_flue_60 (m_X8_in_b _ G S _ _ _ true g6) (Nat.le_of_ble_eq_true rfl) ?_
            first | with_reducible refine aw_ifeqB hX (tgt := 87) dX8_flue_63 (by decide) (fun c_63 => ?_) (fun c_63 => ?_) | refine aw_ifeq hX (tgt := 87) dX8_flue_63 (by decide) (fun c_63 => ?_) (fun c_63 => ?_)
            · cases c_63
            · skip
              refine aw_iload_7 hX dX8_flue_66 ?_
              refine aw_iconst hX (v := nI 0) (by decide) dX8_flue_68 ?_
              refine aw_bipush hX (v := nI 20) (by decide) dX8_flue_69 ?_
              refine cs_X8_in hX ml_X8_60 dX8_flue_71 (m_X8_in_b _ G S _ _ _ true g7) (Nat.le_of_ble_eq_true rfl) ?_
              first | with_reducible refine aw_ifeqB hX (tgt := 87) dX8_flue_74 (by decide) (fun c_74 => ?_) (fun c_74 => ?_) | refine aw_ifeq hX (tgt := 87) dX8_flue_74 (by decide) (fun c_74 => ?_) (fun c_74 => ?_)
              · cases c_74
              · skip
                refine aw_iload_8 hX dX8_flue_77 ?_
                refine aw_iconst hX (v := nI 0) (by decide) dX8_flue_79 ?_
                refine aw_iconst hX (v := nI 3) (by decide) dX8_flue_80 ?_
                refine cs_X8_in hX ml_X8_60 dX8_flue_81 (m_X8_in_b _ G S _ _ _ true h3) (Nat.le_of_ble_eq_true rfl) ?_
                first | with_reducible refine aw_ifneB hX (tgt := 89) dX8_flue_84 (by decide) (fun c_84 => ?_) (fun c_84 => ?_) | refine aw_ifne hX (tgt := 89) dX8_flue_84 (by decide) (fun c_84 => ?_) (fun c_84 => ?_)
                · skip
                  refine aw_aload_0 hX dX8_flue_89 ?_
                  refine ag_X8_flues hX fl_X8_93 dX8_flue_90 ?_
                  refine aw_bipush hX (v := nI 12) (by decide) dX8_flue_93 ?_
                  first | with_reducible refine aw_icmpneN hX (tgt := 101) dX8_flue_95 (by decide) (by omega) (by omega) (fun c_95 => ?_) (fun c_95 => ?_) | refine aw_icmpne hX (tgt := 101) dX8_flue_95 (by decide) (fun c_95 => ?_) (fun c_95 => ?_)
                  · exact absurd hs c_95
                  · skip
                    refine aw_bipush hX (v := (-3)) (by decide) dX8_flue_98 ?_
                    refine aw_finI (hR _ _ dX8_flue_100) ?_ ?_
                    · rfl
                    · rfl
                · cases c_84
set_option maxHeartbeats 4000000 in
set_option maxRecDepth 100000 in
theorem m_X8_flue_ok (d : Nat) (G : GT) (S : St) (h13 : S.1 13 = 0) (k f h w b x y hd : Int32) (h1 : (inR k (nI 0) (nI 2) && inR f (nI 0) (nI 2) && inR h (nI 1) (nI 30) && inR w (nI 10) (nI 40) && inR b (nI 0) (nI 4)) = true) (h2 : (inR x (nI 0) (nI 20) && inR y (nI 0) (nI 20)) = true) (h3 : inR hd (nI 0) (nI 3) = true) (hs : S.1 18 < 12) : rX8_flue G (d + 2) [.ref (gad G 8), .int k, .int f, .int h, .int w, .int b, .int x, .int y, .int hd] S (some (.int (nI (S.1 18)))) (sN (sA (sA (sA (sA (sA (sA (sA (sA (sA (sA (sA S 52 (11 * S.1 18) k) 52 (11 * S.1 18 + 1) (f)) 52 (11 * S.1 18 + 2) (h)) 52 (11 * S.1 18 + 3) (w)) 52 (11 * S.1 18 + 4) (b)) 52 (11 * S.1 18 + 5) (x)) 52 (11 * S.1 18 + 6) (y)) 52 (11 * S.1 18 + 7) (hd)) 52 (11 * S.1 18 + 8) (nI (S.1 14))) 52 (11 * S.1 18 + 9) (nI (S.1 14))) 52 (11 * S.1 18 + 10) (nI 0)) 18 (S.1 18 + 1)) := by
  simp only [Bool.and_eq_true] at h1 h2
  obtain ⟨⟨⟨⟨g1, g2⟩, g3⟩, g4⟩, g5⟩ := h1
  obtain ⟨g6, g7⟩ := h2
  refine runs_I (d := (d + 1)) (by decide) (Nat.le_of_ble_eq_true rfl) (fun X (hX : XC X G (d + 1) RX8 cX8_flue 10) hR => ?_)
  show AW X G 0 [.ref (gad G 8), .int k, .int f, .int h, .int w, .int b, .int x, .int y, .int hd, .null] [] S
  refine aw_aload_0 hX dX8_flue_0 ?_
  refine aw_iconst hX (v := nI 0) (by decide) dX8_flue_1 ?_
  refine ap_X8_thrown hX fl_X8_57 dX8_flue_2 ?_
  refine aw_S (sN_self h13) ?_
  refine aw_iload_1 hX dX8_flue_5 ?_
  refine aw_iconst hX (v := nI 0) (by decide) dX8_flue_6 ?_
  refine aw_iconst hX (v := nI 2) (by decide) dX8_flue_7 ?_
  refine cs_X8_in hX ml_X8_60 dX8_flue_8 (m_X8_in_b _ G S _ _ _ true g1) (Nat.le_of_ble_eq_true rfl) ?_
  first | with_reducible refine aw_ifeqB hX (tgt := 87) dX8_flue_11 (by decide) (fun c_11 => ?_) (fun c_11 => ?_) | refine aw_ifeq hX (tgt := 87) dX8_flue_11 (by decide) (fun c_11 => ?_) (fun c_11 => ?_)
  · cases c_11
  · skip
    refine aw_iload_2 hX dX8_flue_14 ?_
    refine aw_iconst hX (v := nI 0) (by decide) dX8_flue_15 ?_
    refine aw_iconst hX (v := nI 2) (by decide) dX8_flue_16 ?_
    refine cs_X8_in hX ml_X8_60 dX8_flue_17 (m_X8_in_b _ G S _ _ _ true g2) (Nat.le_of_ble_eq_true rfl) ?_
    first | with_reducible refine aw_ifeqB hX (tgt := 87) dX8_flue_20 (by decide) (fun c_20 => ?_) (fun c_20 => ?_) | refine aw_ifeq hX (tgt := 87) dX8_flue_20 (by decide) (fun c_20 => ?_) (fun c_20 => ?_)
    · cases c_20
    · skip
      refine aw_iload_3 hX dX8_flue_23 ?_
      refine aw_iconst hX (v := nI 1) (by decide) dX8_flue_24 ?_
      refine aw_bipush hX (v := nI 30) (by decide) dX8_flue_25 ?_
      refine cs_X8_in hX ml_X8_60 dX8_flue_27 (m_X8_in_b _ G S _ _ _ true g3) (Nat.le_of_ble_eq_true rfl) ?_
      first | with_reducible refine aw_ifeqB hX (tgt := 87) dX8_flue_30 (by decide) (fun c_30 => ?_) (fun c_30 => ?_) | refine aw_ifeq hX (tgt := 87) dX8_flue_30 (by decide) (fun c_30 => ?_) (fun c_30 => ?_)
      · cases c_30
      · skip
        refine aw_iload_4 hX dX8_flue_33 ?_
        refine aw_bipush hX (v := nI 10) (by decide) dX8_flue_35 ?_
        refine aw_bipush hX (v := nI 40) (by decide) dX8_flue_37 ?_
        refine cs_X8_in hX ml_X8_60 dX8_flue_39 (m_X8_in_b _ G S _ _ _ true g4) (Nat.le_of_ble_eq_true rfl) ?_
        first | with_reducible refine aw_ifeqB hX (tgt := 87) dX8_flue_42 (by decide) (fun c_42 => ?_) (fun c_42 => ?_) | refine aw_ifeq hX (tgt := 87) dX8_flue_42 (by decide) (fun c_42 => ?_) (fun c_42 => ?_)
        · cases c_42
        · skip
          refine aw_iload_5 hX dX8_flue_45 ?_
          refine aw_iconst hX (v := nI 0) (by decide) dX8_flue_47 ?_
          refine aw_iconst hX (v := nI 4) (by decide) dX8_flue_48 ?_
          refine cs_X8_in hX ml_X8_60 dX8_flue_49 (m_X8_in_b _ G S _ _ _ true g5) (Nat.le_of_ble_eq_true rfl) ?_
          first | with_reducible refine aw_ifeqB hX (tgt := 87) dX8_flue_52 (by decide) (fun c_52 => ?_) (fun c_52 => ?_) | refine aw_ifeq hX (tgt := 87) dX8_flue_52 (by decide) (fun c_52 => ?_) (fun c_52 => ?_)
          · cases c_52
          · skip
            refine aw_iload_6 hX dX8_flue_55 ?_
            refine aw_iconst hX (v := nI 0) (by decide) dX8_flue_57 ?_
            refine aw_bipush hX (v := nI 20) (by decide) dX8_flue_58 ?_
            refine cs_X8_in hX ml_X8_60 dX8_flue_60 (m_X8_in_b _ G S _ _ _ true g6) (Nat.le_of_ble_eq_true rfl) ?_
            first | with_reducible refine aw_ifeqB hX (tgt := 87) dX8_flue_63 (by decide) (fun c_63 => ?_) (fun c_63 => ?_) | refine aw_ifeq hX (tgt := 87) dX8_flue_63 (by decide) (fun c_63 => ?_) (fun c_63 => ?_)
            · cases c_63
            · skip
              refine aw_iload_7 hX dX8_flue_66 ?_
              refine aw_iconst hX (v := nI 0) (by decide) dX8_flue_68 ?_
              refine aw_bipush hX (v := nI 20) (by decide) dX8_flue_69 ?_
              refine cs_X8_in hX ml_X8_60 dX8_flue_71 (m_X8_in_b _ G S _ _ _ true g7) (Nat.le_of_ble_eq_true rfl) ?_
              first | with_reducible refine aw_ifeqB hX (tgt := 87) dX8_flue_74 (by decide) (fun c_74 => ?_) (fun c_74 => ?_) | refine aw_ifeq hX (tgt := 87) dX8_flue_74 (by decide) (fun c_74 => ?_) (fun c_74 => ?_)
              · cases c_74
              · skip
                refine aw_iload_8 hX dX8_flue_77 ?_
                refine aw_iconst hX (v := nI 0) (by decide) dX8_flue_79 ?_
                refine aw_iconst hX (v := nI 3) (by decide) dX8_flue_80 ?_
                refine cs_X8_in hX ml_X8_60 dX8_flue_81 (m_X8_in_b _ G S _ _ _ true h3) (Nat.le_of_ble_eq_true rfl) ?_
                first | with_reducible refine aw_ifneB hX (tgt := 89) dX8_flue_84 (by decide) (fun c_84 => ?_) (fun c_84 => ?_) | refine aw_ifne hX (tgt := 89) dX8_flue_84 (by decide) (fun c_84 => ?_) (fun c_84 => ?_)
                · skip
                  refine aw_aload_0 hX dX8_flue_89 ?_
                  refine ag_X8_flues hX fl_X8_93 dX8_flue_90 ?_
                  refine aw_bipush hX (v := nI 12) (by decide) dX8_flue_93 ?_
                  first | with_reducible refine aw_icmpneN hX (tgt := 101) dX8_flue_95 (by decide) (by omega) (by omega) (fun c_95 => ?_) (fun c_95 => ?_) | refine aw_icmpne hX (tgt := 101) dX8_flue_95 (by decide) (fun c_95 => ?_) (fun c_95 => ?_)
                  · skip
                    refine aw_bipush hX (v := nI 11) (by decide) dX8_flue_101 ?_
                    refine aw_aload_0 hX dX8_flue_103 ?_
                    refine ag_X8_flues hX fl_X8_93 dX8_flue_104 ?_
                    first | with_reducible refine aw_imulN hX dX8_flue_107 ?_ | refine aw_imul hX dX8_flue_107 ?_
                    refine aw_istore_9 hX rfl (by decide) dX8_flue_108 ?_
                    refine aw_aload_0 hX dX8_flue_110 ?_
                    refine ag_X8_flue hX fl_X8_28 dX8_flue_111 ?_
                    refine aw_iload_9 hX dX8_flue_114 ?_
                    refine aw_iload_1 hX dX8_flue_116 ?_
                    refine aw_iast hX dX8_flue_117 rfl (fun _ => rfl) (by decide) (by omega) ?_
                    refine aw_aload_0 hX dX8_flue_118 ?_
                    refine ag_X8_flue hX fl_X8_28 dX8_flue_119 ?_
                    try simp only [sN_N, sN_A, sN_L, sN_R, sA_N, sA_A, sA_L, sA_R, sL_N, sL_A, sL_L, sL_R, sR_N, sR_A, sR_L, sR_R, reduceIte]
                    refine aw_iload_9 hX dX8_flue_122 ?_
                    refine aw_iconst hX (v := nI 1) (by decide) dX8_flue_124 ?_
                    first | with_reducible refine aw_iaddN hX dX8_flue_125 ?_ | refine aw_iadd hX dX8_flue_125 ?_
                    refine aw_iload_2 hX dX8_flue_126 ?_
                    refine aw_iast hX dX8_flue_127 rfl (fun _ => rfl) (by decide) (by omega) ?_
                    refine aw_aload_0 hX dX8_flue_128 ?_
                    refine ag_X8_flue hX fl_X8_28 dX8_flue_129 ?_
                    try simp only [sN_N, sN_A, sN_L, sN_R, sA_N, sA_A, sA_L, sA_R, sL_N, sL_A, sL_L, sL_R, sR_N, sR_A, sR_L, sR_R, reduceIte]
                    refine aw_iload_9 hX dX8_flue_132 ?_
                    refine aw_iconst hX (v := nI 2) (by decide) dX8_flue_134 ?_
                    first | with_reducible refine aw_iaddN hX dX8_flue_135 ?_ | refine aw_iadd hX dX8_flue_135 ?_
                    refine aw_iload_3 hX dX8_flue_136 ?_
                    refine aw_iast hX dX8_flue_137 rfl (fun _ => rfl) (by decide) (by omega) ?_
                    refine aw_aload_0 hX dX8_flue_138 ?_
                    refine ag_X8_flue hX fl_X8_28 dX8_flue_139 ?_
                    try simp only [sN_N, sN_A, sN_L, sN_R, sA_N, sA_A, sA_L, sA_R, sL_N, sL_A, sL_L, sL_R, sR_N, sR_A, sR_L, sR_R, reduceIte]
                    refine aw_iload_9 hX dX8_flue_142 ?_
                    refine aw_iconst hX (v := nI 3) (by decide) dX8_flue_144 ?_
                    first | with_reducible refine aw_iaddN hX dX8_flue_145 ?_ | refine aw_iadd hX dX8_flue_145 ?_
                    refine aw_iload_4 hX dX8_flue_146 ?_
                    refine aw_iast hX dX8_flue_148 rfl (fun _ => rfl) (by decide) (by omega) ?_
                    refine aw_aload_0 hX dX8_flue_149 ?_
                    refine ag_X8_flue hX fl_X8_28 dX8_flue_150 ?_
                    try simp only [sN_N, sN_A, sN_L, sN_R, sA_N, sA_A, sA_L, sA_R, sL_N, sL_A, sL_L, sL_R, sR_N, sR_A, sR_L, sR_R, reduceIte]
                    refine aw_iload_9 hX dX8_flue_153 ?_
                    refine aw_iconst hX (v := nI 4) (by decide) dX8_flue_155 ?_
                    first | with_reducible refine aw_iaddN hX dX8_flue_156 ?_ | refine aw_iadd hX dX8_flue_156 ?_
                    refine aw_iload_5 hX dX8_flue_157 ?_
                    refine aw_iast hX dX8_flue_159 rfl (fun _ => rfl) (by decide) (by omega) ?_
                    refine aw_aload_0 hX dX8_flue_160 ?_
                    refine ag_X8_flue hX fl_X8_28 dX8_flue_161 ?_
                    try simp only [sN_N, sN_A, sN_L, sN_R, sA_N, sA_A, sA_L, sA_R, sL_N, sL_A, sL_L, sL_R, sR_N, sR_A, sR_L, sR_R, reduceIte]
                    refine aw_iload_9 hX dX8_flue_164 ?_
                    refine aw_iconst hX (v := nI 5) (by decide) dX8_flue_166 ?_
                    first | with_reducible refine aw_iaddN hX dX8_flue_167 ?_ | refine aw_iadd hX dX8_flue_167 ?_
                    refine aw_iload_6 hX dX8_flue_168 ?_
                    refine aw_iast hX dX8_flue_170 rfl (fun _ => rfl) (by decide) (by omega) ?_
                    refine aw_aload_0 hX dX8_flue_171 ?_
                    refine ag_X8_flue hX fl_X8_28 dX8_flue_172 ?_
                    try simp only [sN_N, sN_A, sN_L, sN_R, sA_N, sA_A, sA_L, sA_R, sL_N, sL_A, sL_L, sL_R, sR_N, sR_A, sR_L, sR_R, reduceIte]
                    refine aw_iload_9 hX dX8_flue_175 ?_
                    refine aw_bipush hX (v := nI 6) (by decide) dX8_flue_177 ?_
                    first | with_reducible refine aw_iaddN hX dX8_flue_179 ?_ | refine aw_iadd hX dX8_flue_179 ?_
                    refine aw_iload_7 hX dX8_flue_180 ?_
                    refine aw_iast hX dX8_flue_182 rfl (fun _ => rfl) (by decide) (by omega) ?_
                    refine aw_aload_0 hX dX8_flue_183 ?_
                    refine ag_X8_flue hX fl_X8_28 dX8_flue_184 ?_
                    try simp only [sN_N, sN_A, sN_L, sN_R, sA_N, sA_A, sA_L, sA_R, sL_N, sL_A, sL_L, sL_R, sR_N, sR_A, sR_L, sR_R, reduceIte]
                    refine aw_iload_9 hX dX8_flue_187 ?_
                    refine aw_bipush hX (v := nI 7) (by decide) dX8_flue_189 ?_
                    first | with_reducible refine aw_iaddN hX dX8_flue_191 ?_ | refine aw_iadd hX dX8_flue_191 ?_
                    refine aw_iload_8 hX dX8_flue_192 ?_
                    refine aw_iast hX dX8_flue_194 rfl (fun _ => rfl) (by decide) (by omega) ?_
                    refine aw_aload_0 hX dX8_flue_195 ?_
                    refine ag_X8_flue hX fl_X8_28 dX8_flue_196 ?_
                    try simp only [sN_N, sN_A, sN_L, sN_R, sA_N, sA_A, sA_L, sA_R, sL_N, sL_A, sL_L, sL_R, sR_N, sR_A, sR_L, sR_R, reduceIte]
                    refine aw_iload_9 hX dX8_flue_199 ?_
                    refine aw_bipush hX (v := nI 8) (by decide) dX8_flue_201 ?_
                    first | with_reducible refine aw_iaddN hX dX8_flue_203 ?_ | refine aw_iadd hX dX8_flue_203 ?_
                    refine aw_aload_0 hX dX8_flue_204 ?_
                    refine ag_X8_today hX fl_X8_86 dX8_flue_205 ?_
                    try simp only [sN_N, sN_A, sN_L, sN_R, sA_N, sA_A, sA_L, sA_R, sL_N, sL_A, sL_L, sL_R, sR_N, sR_A, sR_L, sR_R, reduceIte]
                    refine aw_iast hX dX8_flue_208 rfl (fun _ => rfl) (by decide) (by omega) ?_
                    refine aw_aload_0 hX dX8_flue_209 ?_
                    refine ag_X8_flue hX fl_X8_28 dX8_flue_210 ?_
                    try simp only [sN_N, sN_A, sN_L, sN_R, sA_N, sA_A, sA_L, sA_R, sL_N, sL_A, sL_L, sL_R, sR_N, sR_A, sR_L, sR_R, reduceIte]
                    refine aw_iload_9 hX dX8_flue_213 ?_
                    refine aw_bipush hX (v := nI 9) (by decide) dX8_flue_215 ?_
                    first | with_reducible refine aw_iaddN hX dX8_flue_217 ?_ | refine aw_iadd hX dX8_flue_217 ?_
                    refine aw_aload_0 hX dX8_flue_218 ?_
                    refine ag_X8_today hX fl_X8_86 dX8_flue_219 ?_
                    try simp only [sN_N, sN_A, sN_L, sN_R, sA_N, sA_A, sA_L, sA_R, sL_N, sL_A, sL_L, sL_R, sR_N, sR_A, sR_L, sR_R, reduceIte]
                    refine aw_iast hX dX8_flue_222 rfl (fun _ => rfl) (by decide) (by omega) ?_
                    refine aw_aload_0 hX dX8_flue_223 ?_
                    refine ag_X8_flue hX fl_X8_28 dX8_flue_224 ?_
                    try simp only [sN_N, sN_A, sN_L, sN_R, sA_N, sA_A, sA_L, sA_R, sL_N, sL_A, sL_L, sL_R, sR_N, sR_A, sR_L, sR_R, reduceIte]
                    refine aw_iload_9 hX dX8_flue_227 ?_
                    refine aw_bipush hX (v := nI 10) (by decide) dX8_flue_229 ?_
                    first | with_reducible refine aw_iaddN hX dX8_flue_231 ?_ | refine aw_iadd hX dX8_flue_231 ?_
                    refine aw_iconst hX (v := nI 0) (by decide) dX8_flue_232 ?_
                    refine aw_iast hX dX8_flue_233 rfl (fun _ => rfl) (by decide) (by omega) ?_
                    refine aw_aload_0 hX dX8_flue_234 ?_
                    refine aw_dup hX rfl dX8_flue_235 ?_
                    refine ag_X8_flues hX fl_X8_93 dX8_flue_236 ?_
                    try simp only [sN_N, sN_A, sN_L, sN_R, sA_N, sA_A, sA_L, sA_R, sL_N, sL_A, sL_L, sL_R, sR_N, sR_A, sR_L, sR_R, reduceIte]
                    refine aw_iconst hX (v := nI 1) (by decide) dX8_flue_239 ?_
                    first | with_reducible refine aw_iaddN hX dX8_flue_240 ?_ | refine aw_iadd hX dX8_flue_240 ?_
                    refine ap_X8_flues hX fl_X8_93 dX8_flue_241 ?_
                    refine aw_aload_0 hX dX8_flue_244 ?_
                    refine ag_X8_flues hX fl_X8_93 dX8_flue_245 ?_
                    try simp only [sN_N, sN_A, sN_L, sN_R, sA_N, sA_A, sA_L, sA_R, sL_N, sL_A, sL_L, sL_R, sR_N, sR_A, sR_L, sR_R, reduceIte]
                    refine aw_iconst hX (v := nI 1) (by decide) dX8_flue_248 ?_
                    first | with_reducible refine aw_isubN hX (by omega) dX8_flue_249 ?_ | refine aw_isub hX dX8_flue_249 ?_
                    refine aw_finI (hR _ _ dX8_flue_250) ?_ ?_
                    · first | rfl | simp
                    · rfl
                  · exact absurd c_95 (by omega)
                · cases c_84
set_option maxHeartbeats 4000000 in
set_option maxRecDepth 100000 in
theorem m_X8_draught_bad (d : Nat) (G : GT) (S : St) (h13 : S.1 13 = 0) (f : Int32) (h18 : S.1 18 ≤ 12) (h : hasB f (S.1 18) = false) : rX8_draught G (d + 3) [.ref (gad G 8), .int f] S (some (.int (-1))) S := by
  refine runs_I (d := (d + 2)) (by decide) (Nat.le_of_ble_eq_true rfl) (fun X (hX : XC X G (d + 2) RX8 cX8_draught 5) hR => ?_)
  show AW X G 0 [.ref (gad G 8), .int f, .null, .null, .null] [] S
  refine aw_aload_0 hX dX8_draught_0 ?_
  refine aw_iconst hX (v := nI 0) (by decide) dX8_draught_1 ?_
  refine ap_X8_thrown hX fl_X8_57 dX8_draught_2 ?_
  refine aw_S (sN_self h13) ?_
  refine aw_aload_0 hX dX8_draught_5 ?_
  refine aw_iload_1 hX dX8_draught_6 ?_
  refine cv_X8_isFlue hX ml_X8_96 dX8_draught_7 (m_X8_isFlue _ G S _ false h18 h) (Nat.le_of_ble_eq_true rfl) ?_
  first | with_reducible refine aw_ifneB hX (tgt := 15) dX8_draught_10 (by decide) (fun c_10 => ?_) (fun c_10 => ?_) | refine aw_ifne hX (tgt := 15) dX8_draught_10 (by decide) (fun c_10 => ?_) (fun c_10 => ?_)
  · cases c_10
  · skip
    refine aw_iconst hX (v := (-1)) (by decide) dX8_draught_13 ?_
    refine aw_finI (hR _ _ dX8_draught_14) ?_ ?_
    · rfl
    · rfl
def puM (S : St) (i k : Nat) : Int32 := ofM S i 2 * gpull k / ofM S i 3
def mn0 (z : Int32) : Int32 := if 0 ≤ z then z else nI 0
theorem gp0 : nI 10 = gpull 0 := by decide
theorem gp1 : nI 30 = gpull 1 := by decide
theorem gp2 : nI 40 = gpull 2 := by decide
theorem sL_of {S : St} {k i c : Nat} {v : Int64} : ofM (sL S k v) i c = ofM S i c := rfl
set_option maxHeartbeats 4000000 in
set_option maxRecDepth 100000 in
theorem m_X8_draught_00 (d : Nat) (G : GT) (S : St) (h13 : S.1 13 = 0) (i : Nat) (hi0 : i < S.1 18) (h18 : S.1 18 ≤ 12) (hw : ¬ ofM S i 3 = 0) (hk : ofM S i 1 = nI 0) (hd : ofM S i 0 = nI 0) : rX8_draught G (d + 3) [.ref (gad G 8), .int (nI i)] S (some (.int (puM S i 0))) (sL S 1 (S.2.2.1 1 + 1)) := by
  have hi : i < 12 := by omega
  refine runs_I (d := (d + 2)) (by decide) (Nat.le_of_ble_eq_true rfl) (fun X (hX : XC X G (d + 2) RX8 cX8_draught 5) hR => ?_)
  show AW X G 0 [.ref (gad G 8), .int (nI i), .null, .null, .null] [] S
  refine aw_aload_0 hX dX8_draught_0 ?_
  refine aw_iconst hX (v := nI 0) (by decide) dX8_draught_1 ?_
  refine ap_X8_thrown hX fl_X8_57 dX8_draught_2 ?_
  refine aw_S (sN_self h13) ?_
  refine aw_aload_0 hX dX8_draught_5 ?_
  refine aw_iload_1 hX dX8_draught_6 ?_
  refine cv_X8_isFlue hX ml_X8_96 dX8_draught_7 (m_X8_isFlue _ G S _ true h18 (hasB_t hi0 (by omega))) (Nat.le_of_ble_eq_true rfl) ?_
  first | with_reducible refine aw_ifneB hX (tgt := 15) dX8_draught_10 (by decide) (fun c_10 => ?_) (fun c_10 => ?_) | refine aw_ifne hX (tgt := 15) dX8_draught_10 (by decide) (fun c_10 => ?_) (fun c_10 => ?_)
  · skip
    refine aw_aload_0 hX dX8_draught_15 ?_
    refine aw_iload_1 hX dX8_draught_16 ?_
    refine aw_iconst hX (v := nI 0) (by decide) dX8_draught_17 ?_
    refine cv_X8_of hX ml_X8_99 dX8_draught_18 (m_X8_of _ G S i 0 hi (by decide)) (Nat.le_of_ble_eq_true rfl) ?_
    refine aw_ti hd ?_
    refine aw_istore_2 hX rfl (by decide) dX8_draught_21 ?_
    refine aw_aload_0 hX dX8_draught_22 ?_
    refine aw_dup hX rfl dX8_draught_23 ?_
    refine ag_X8_trace hX fl_X8_102 dX8_draught_24 ?_
    refine aw_iload_2 hX dX8_draught_27 ?_
    first | with_reducible refine aw_ifneB hX (tgt := 35) dX8_draught_28 (by decide) (fun c_28 => ?_) (fun c_28 => ?_) | refine aw_ifne hX (tgt := 35) dX8_draught_28 (by decide) (fun c_28 => ?_) (fun c_28 => ?_)
    · exact absurd rfl c_28
    · skip
      refine aw_lconst hX (v := 1) (by decide) dX8_draught_31 ?_
      refine aw_goto hX (tgt := 49) dX8_draught_32 (by decide) ?_
      refine aw_ladd hX dX8_draught_49 ?_
      refine ap_X8_trace hX fl_X8_102 dX8_draught_50 ?_
      refine aw_aload_0 hX dX8_draught_53 ?_
      refine aw_iload_1 hX dX8_draught_54 ?_
      refine aw_iconst hX (v := nI 1) (by decide) dX8_draught_55 ?_
      refine cv_X8_of hX ml_X8_99 dX8_draught_56 (m_X8_of _ G (sL S 1 (S.2.2.1 1 + 1)) i 1 hi (by decide)) (Nat.le_of_ble_eq_true rfl) ?_
      refine aw_ti hk ?_
      refine aw_istore_3 hX rfl (by decide) dX8_draught_59 ?_
      refine aw_aload_0 hX dX8_draught_60 ?_
      refine aw_iload_1 hX dX8_draught_61 ?_
      refine aw_iconst hX (v := nI 2) (by decide) dX8_draught_62 ?_
      refine cv_X8_of hX ml_X8_99 dX8_draught_63 (m_X8_of _ G (sL S 1 (S.2.2.1 1 + 1)) i 2 hi (by decide)) (Nat.le_of_ble_eq_true rfl) ?_
      refine aw_iload_3 hX dX8_draught_66 ?_
      first | with_reducible refine aw_ifneB hX (tgt := 75) dX8_draught_67 (by decide) (fun c_67 => ?_) (fun c_67 => ?_) | refine aw_ifne hX (tgt := 75) dX8_draught_67 (by decide) (fun c_67 => ?_) (fun c_67 => ?_)
      · exact absurd rfl c_67
      · skip
        refine aw_bipush hX (v := nI 10) (by decide) dX8_draught_70 ?_
        refine aw_ti gp0 ?_
        refine aw_goto hX (tgt := 87) dX8_draught_72 (by decide) ?_
        first | with_reducible refine aw_imulN hX dX8_draught_87 ?_ | refine aw_imul hX dX8_draught_87 ?_
        refine aw_aload_0 hX dX8_draught_88 ?_
        refine aw_iload_1 hX dX8_draught_89 ?_
        refine aw_iconst hX (v := nI 3) (by decide) dX8_draught_90 ?_
        refine cv_X8_of hX ml_X8_99 dX8_draught_91 (m_X8_of _ G (sL S 1 (S.2.2.1 1 + 1)) i 3 hi (by decide)) (Nat.le_of_ble_eq_true rfl) ?_
        refine aw_idiv hX hw dX8_draught_94 ?_
        refine aw_istore_4 hX rfl (by decide) dX8_draught_95 ?_
        refine aw_iload_2 hX dX8_draught_97 ?_
        refine aw_ifle hX (tgt := 127) dX8_draught_98 (by decide) (fun c_98 => ?_) (fun c_98 => ?_)
        · skip
          refine aw_iload_2 hX dX8_draught_127 ?_
          refine aw_iconst hX (v := nI 2) (by decide) dX8_draught_128 ?_
          first | with_reducible refine aw_icmpneN hX (tgt := 139) dX8_draught_129 (by decide) (by omega) (by omega) (fun c_129 => ?_) (fun c_129 => ?_) | refine aw_icmpne hX (tgt := 139) dX8_draught_129 (by decide) (fun c_129 => ?_) (fun c_129 => ?_)
          · skip
            refine aw_iload_4 hX dX8_draught_139 ?_
            refine aw_finI (hR _ _ dX8_draught_141) ?_ ?_
            · first | rfl | exact (if_pos c_116).symm | exact (if_neg c_116).symm | exact congrArg (fun z => z / nI 2) (if_pos c_116).symm | exact congrArg (fun z => z / nI 2) (if_neg c_116).symm
            · rfl
          · exact absurd c_129 (by decide)
        · exact absurd (by decide) c_98
  · cases c_10
set_option maxHeartbeats 4000000 in
set_option maxRecDepth 100000 in
theorem m_X8_draught_01 (d : Nat) (G : GT) (S : St) (h13 : S.1 13 = 0) (i : Nat) (hi0 : i < S.1 18) (h18 : S.1 18 ≤ 12) (hw : ¬ ofM S i 3 = 0) (hk : ofM S i 1 = nI 1) (hd : ofM S i 0 = nI 0) : rX8_draught G (d + 3) [.ref (gad G 8), .int (nI i)] S (some (.int (puM S i 1))) (sL S 1 (S.2.2.1 1 + 1)) := by
  have hi : i < 12 := by omega
  refine runs_I (d := (d + 2)) (by decide) (Nat.le_of_ble_eq_true rfl) (fun X (hX : XC X G (d + 2) RX8 cX8_draught 5) hR => ?_)
  show AW X G 0 [.ref (gad G 8), .int (nI i), .null, .null, .null] [] S
  refine aw_aload_0 hX dX8_draught_0 ?_
  refine aw_iconst hX (v := nI 0) (by decide) dX8_draught_1 ?_
  refine ap_X8_thrown hX fl_X8_57 dX8_draught_2 ?_
  refine aw_S (sN_self h13) ?_
  refine aw_aload_0 hX dX8_draught_5 ?_
  refine aw_iload_1 hX dX8_draught_6 ?_
  refine cv_X8_isFlue hX ml_X8_96 dX8_draught_7 (m_X8_isFlue _ G S _ true h18 (hasB_t hi0 (by omega))) (Nat.le_of_ble_eq_true rfl) ?_
  first | with_reducible refine aw_ifneB hX (tgt := 15) dX8_draught_10 (by decide) (fun c_10 => ?_) (fun c_10 => ?_) | refine aw_ifne hX (tgt := 15) dX8_draught_10 (by decide) (fun c_10 => ?_) (fun c_10 => ?_)
  · skip
    refine aw_aload_0 hX dX8_draught_15 ?_
    refine aw_iload_1 hX dX8_draught_16 ?_
    refine aw_iconst hX (v := nI 0) (by decide) dX8_draught_17 ?_
    refine cv_X8_of hX ml_X8_99 dX8_draught_18 (m_X8_of _ G S i 0 hi (by decide)) (Nat.le_of_ble_eq_true rfl) ?_
    refine aw_ti hd ?_
    refine aw_istore_2 hX rfl (by decide) dX8_draught_21 ?_
    refine aw_aload_0 hX dX8_draught_22 ?_
    refine aw_dup hX rfl dX8_draught_23 ?_
    refine ag_X8_trace hX fl_X8_102 dX8_draught_24 ?_
    refine aw_iload_2 hX dX8_draught_27 ?_
    first | with_reducible refine aw_ifneB hX (tgt := 35) dX8_draught_28 (by decide) (fun c_28 => ?_) (fun c_28 => ?_) | refine aw_ifne hX (tgt := 35) dX8_draught_28 (by decide) (fun c_28 => ?_) (fun c_28 => ?_)
    · exact absurd rfl c_28
    · skip
      refine aw_lconst hX (v := 1) (by decide) dX8_draught_31 ?_
      refine aw_goto hX (tgt := 49) dX8_draught_32 (by decide) ?_
      refine aw_ladd hX dX8_draught_49 ?_
      refine ap_X8_trace hX fl_X8_102 dX8_draught_50 ?_
      refine aw_aload_0 hX dX8_draught_53 ?_
      refine aw_iload_1 hX dX8_draught_54 ?_
      refine aw_iconst hX (v := nI 1) (by decide) dX8_draught_55 ?_
      refine cv_X8_of hX ml_X8_99 dX8_draught_56 (m_X8_of _ G (sL S 1 (S.2.2.1 1 + 1)) i 1 hi (by decide)) (Nat.le_of_ble_eq_true rfl) ?_
      refine aw_ti hk ?_
      refine aw_istore_3 hX rfl (by decide) dX8_draught_59 ?_
      refine aw_aload_0 hX dX8_draught_60 ?_
      refine aw_iload_1 hX dX8_draught_61 ?_
      refine aw_iconst hX (v := nI 2) (by decide) dX8_draught_62 ?_
      refine cv_X8_of hX ml_X8_99 dX8_draught_63 (m_X8_of _ G (sL S 1 (S.2.2.1 1 + 1)) i 2 hi (by decide)) (Nat.le_of_ble_eq_true rfl) ?_
      refine aw_iload_3 hX dX8_draught_66 ?_
      first | with_reducible refine aw_ifneB hX (tgt := 75) dX8_draught_67 (by decide) (fun c_67 => ?_) (fun c_67 => ?_) | refine aw_ifne hX (tgt := 75) dX8_draught_67 (by decide) (fun c_67 => ?_) (fun c_67 => ?_)
      · skip
        refine aw_iload_3 hX dX8_draught_75 ?_
        refine aw_iconst hX (v := nI 1) (by decide) dX8_draught_76 ?_
        first | with_reducible refine aw_icmpneN hX (tgt := 85) dX8_draught_77 (by decide) (by omega) (by omega) (fun c_77 => ?_) (fun c_77 => ?_) | refine aw_icmpne hX (tgt := 85) dX8_draught_77 (by decide) (fun c_77 => ?_) (fun c_77 => ?_)
        · exact absurd rfl c_77
        · skip
          refine aw_bipush hX (v := nI 30) (by decide) dX8_draught_80 ?_
          refine aw_ti gp1 ?_
          refine aw_goto hX (tgt := 87) dX8_draught_82 (by decide) ?_
          first | with_reducible refine aw_imulN hX dX8_draught_87 ?_ | refine aw_imul hX dX8_draught_87 ?_
          refine aw_aload_0 hX dX8_draught_88 ?_
          refine aw_iload_1 hX dX8_draught_89 ?_
          refine aw_iconst hX (v := nI 3) (by decide) dX8_draught_90 ?_
          refine cv_X8_of hX ml_X8_99 dX8_draught_91 (m_X8_of _ G (sL S 1 (S.2.2.1 1 + 1)) i 3 hi (by decide)) (Nat.le_of_ble_eq_true rfl) ?_
          refine aw_idiv hX hw dX8_draught_94 ?_
          refine aw_istore_4 hX rfl (by decide) dX8_draught_95 ?_
          refine aw_iload_2 hX dX8_draught_97 ?_
          refine aw_ifle hX (tgt := 127) dX8_draught_98 (by decide) (fun c_98 => ?_) (fun c_98 => ?_)
          · skip
            refine aw_iload_2 hX dX8_draught_127 ?_
            refine aw_iconst hX (v := nI 2) (by decide) dX8_draught_128 ?_
            first | with_reducible refine aw_icmpneN hX (tgt := 139) dX8_draught_129 (by decide) (by omega) (by omega) (fun c_129 => ?_) (fun c_129 => ?_) | refine aw_icmpne hX (tgt := 139) dX8_draught_129 (by decide) (fun c_129 => ?_) (fun c_129 => ?_)
            · skip
              refine aw_iload_4 hX dX8_draught_139 ?_
              refine aw_finI (hR _ _ dX8_draught_141) ?_ ?_
              · first | rfl | exact (if_pos c_116).symm | exact (if_neg c_116).symm | exact congrArg (fun z => z / nI 2) (if_pos c_116).symm | exact congrArg (fun z => z / nI 2) (if_neg c_116).symm
              · rfl
            · exact absurd c_129 (by decide)
          · exact absurd (by decide) c_98
      · exact absurd c_67 (by decide)
  · cases c_10
set_option maxHeartbeats 4000000 in
set_option maxRecDepth 100000 in
theorem m_X8_draught_02 (d : Nat) (G : GT) (S : St) (h13 : S.1 13 = 0) (i : Nat) (hi0 : i < S.1 18) (h18 : S.1 18 ≤ 12) (hw : ¬ ofM S i 3 = 0) (hk : ofM S i 1 = nI 2) (hd : ofM S i 0 = nI 0) : rX8_draught G (d + 3) [.ref (gad G 8), .int (nI i)] S (some (.int (puM S i 2))) (sL S 1 (S.2.2.1 1 + 1)) := by
  have hi : i < 12 := by omega
  refine runs_I (d := (d + 2)) (by decide) (Nat.le_of_ble_eq_true rfl) (fun X (hX : XC X G (d + 2) RX8 cX8_draught 5) hR => ?_)
  show AW X G 0 [.ref (gad G 8), .int (nI i), .null, .null, .null] [] S
  refine aw_aload_0 hX dX8_draught_0 ?_
  refine aw_iconst hX (v := nI 0) (by decide) dX8_draught_1 ?_
  refine ap_X8_thrown hX fl_X8_57 dX8_draught_2 ?_
  refine aw_S (sN_self h13) ?_
  refine aw_aload_0 hX dX8_draught_5 ?_
  refine aw_iload_1 hX dX8_draught_6 ?_
  refine cv_X8_isFlue hX ml_X8_96 dX8_draught_7 (m_X8_isFlue _ G S _ true h18 (hasB_t hi0 (by omega))) (Nat.le_of_ble_eq_true rfl) ?_
  first | with_reducible refine aw_ifneB hX (tgt := 15) dX8_draught_10 (by decide) (fun c_10 => ?_) (fun c_10 => ?_) | refine aw_ifne hX (tgt := 15) dX8_draught_10 (by decide) (fun c_10 => ?_) (fun c_10 => ?_)
  · skip
    refine aw_aload_0 hX dX8_draught_15 ?_
    refine aw_iload_1 hX dX8_draught_16 ?_
    refine aw_iconst hX (v := nI 0) (by decide) dX8_draught_17 ?_
    refine cv_X8_of hX ml_X8_99 dX8_draught_18 (m_X8_of _ G S i 0 hi (by decide)) (Nat.le_of_ble_eq_true rfl) ?_
    refine aw_ti hd ?_
    refine aw_istore_2 hX rfl (by decide) dX8_draught_21 ?_
    refine aw_aload_0 hX dX8_draught_22 ?_
    refine aw_dup hX rfl dX8_draught_23 ?_
    refine ag_X8_trace hX fl_X8_102 dX8_draught_24 ?_
    refine aw_iload_2 hX dX8_draught_27 ?_
    first | with_reducible refine aw_ifneB hX (tgt := 35) dX8_draught_28 (by decide) (fun c_28 => ?_) (fun c_28 => ?_) | refine aw_ifne hX (tgt := 35) dX8_draught_28 (by decide) (fun c_28 => ?_) (fun c_28 => ?_)
    · exact absurd rfl c_28
    · skip
      refine aw_lconst hX (v := 1) (by decide) dX8_draught_31 ?_
      refine aw_goto hX (tgt := 49) dX8_draught_32 (by decide) ?_
      refine aw_ladd hX dX8_draught_49 ?_
      refine ap_X8_trace hX fl_X8_102 dX8_draught_50 ?_
      refine aw_aload_0 hX dX8_draught_53 ?_
      refine aw_iload_1 hX dX8_draught_54 ?_
      refine aw_iconst hX (v := nI 1) (by decide) dX8_draught_55 ?_
      refine cv_X8_of hX ml_X8_99 dX8_draught_56 (m_X8_of _ G (sL S 1 (S.2.2.1 1 + 1)) i 1 hi (by decide)) (Nat.le_of_ble_eq_true rfl) ?_
      refine aw_ti hk ?_
      refine aw_istore_3 hX rfl (by decide) dX8_draught_59 ?_
      refine aw_aload_0 hX dX8_draught_60 ?_
      refine aw_iload_1 hX dX8_draught_61 ?_
      refine aw_iconst hX (v := nI 2) (by decide) dX8_draught_62 ?_
      refine cv_X8_of hX ml_X8_99 dX8_draught_63 (m_X8_of _ G (sL S 1 (S.2.2.1 1 + 1)) i 2 hi (by decide)) (Nat.le_of_ble_eq_true rfl) ?_
      refine aw_iload_3 hX dX8_draught_66 ?_
      first | with_reducible refine aw_ifneB hX (tgt := 75) dX8_draught_67 (by decide) (fun c_67 => ?_) (fun c_67 => ?_) | refine aw_ifne hX (tgt := 75) dX8_draught_67 (by decide) (fun c_67 => ?_) (fun c_67 => ?_)
      · skip
        refine aw_iload_3 hX dX8_draught_75 ?_
        refine aw_iconst hX (v := nI 1) (by decide) dX8_draught_76 ?_
        first | with_reducible refine aw_icmpneN hX (tgt := 85) dX8_draught_77 (by decide) (by omega) (by omega) (fun c_77 => ?_) (fun c_77 => ?_) | refine aw_icmpne hX (tgt := 85) dX8_draught_77 (by decide) (fun c_77 => ?_) (fun c_77 => ?_)
        · skip
          refine aw_bipush hX (v := nI 40) (by decide) dX8_draught_85 ?_
          refine aw_ti gp2 ?_
          first | with_reducible refine aw_imulN hX dX8_draught_87 ?_ | refine aw_imul hX dX8_draught_87 ?_
          refine aw_aload_0 hX dX8_draught_88 ?_
          refine aw_iload_1 hX dX8_draught_89 ?_
          refine aw_iconst hX (v := nI 3) (by decide) dX8_draught_90 ?_
          refine cv_X8_of hX ml_X8_99 dX8_draught_91 (m_X8_of _ G (sL S 1 (S.2.2.1 1 + 1)) i 3 hi (by decide)) (Nat.le_of_ble_eq_true rfl) ?_
          refine aw_idiv hX hw dX8_draught_94 ?_
          refine aw_istore_4 hX rfl (by decide) dX8_draught_95 ?_
          refine aw_iload_2 hX dX8_draught_97 ?_
          refine aw_ifle hX (tgt := 127) dX8_draught_98 (by decide) (fun c_98 => ?_) (fun c_98 => ?_)
          · skip
            refine aw_iload_2 hX dX8_draught_127 ?_
            refine aw_iconst hX (v := nI 2) (by decide) dX8_draught_128 ?_
            first | with_reducible refine aw_icmpneN hX (tgt := 139) dX8_draught_129 (by decide) (by omega) (by omega) (fun c_129 => ?_) (fun c_129 => ?_) | refine aw_icmpne hX (tgt := 139) dX8_draught_129 (by decide) (fun c_129 => ?_) (fun c_129 => ?_)
            · skip
              refine aw_iload_4 hX dX8_draught_139 ?_
              refine aw_finI (hR _ _ dX8_draught_141) ?_ ?_
              · first | rfl | exact (if_pos c_116).symm | exact (if_neg c_116).symm | exact congrArg (fun z => z / nI 2) (if_pos c_116).symm | exact congrArg (fun z => z / nI 2) (if_neg c_116).symm
              · rfl
            · exact absurd c_129 (by decide)
          · exact absurd (by decide) c_98
        · exact absurd c_77 (by decide)
      · exact absurd c_67 (by decide)
  · cases c_10
set_option maxHeartbeats 4000000 in
set_option maxRecDepth 100000 in
theorem m_X8_draught_10 (d : Nat) (G : GT) (S : St) (h13 : S.1 13 = 0) (i : Nat) (hi0 : i < S.1 18) (h18 : S.1 18 ≤ 12) (hw : ¬ ofM S i 3 = 0) (hk : ofM S i 1 = nI 0) (hd : ofM S i 0 = nI 1) : rX8_draught G (d + 3) [.ref (gad G 8), .int (nI i)] S (some (.int (mn0 (puM S i 0 - nI 2 * ofM S i 4)))) (sL S 1 (S.2.2.1 1 + 11)) := by
  have hi : i < 12 := by omega
  refine runs_I (d := (d + 2)) (by decide) (Nat.le_of_ble_eq_true rfl) (fun X (hX : XC X G (d + 2) RX8 cX8_draught 5) hR => ?_)
  show AW X G 0 [.ref (gad G 8), .int (nI i), .null, .null, .null] [] S
  refine aw_aload_0 hX dX8_draught_0 ?_
  refine aw_iconst hX (v := nI 0) (by decide) dX8_draught_1 ?_
  refine ap_X8_thrown hX fl_X8_57 dX8_draught_2 ?_
  refine aw_S (sN_self h13) ?_
  refine aw_aload_0 hX dX8_draught_5 ?_
  refine aw_iload_1 hX dX8_draught_6 ?_
  refine cv_X8_isFlue hX ml_X8_96 dX8_draught_7 (m_X8_isFlue _ G S _ true h18 (hasB_t hi0 (by omega))) (Nat.le_of_ble_eq_true rfl) ?_
  first | with_reducible refine aw_ifneB hX (tgt := 15) dX8_draught_10 (by decide) (fun c_10 => ?_) (fun c_10 => ?_) | refine aw_ifne hX (tgt := 15) dX8_draught_10 (by decide) (fun c_10 => ?_) (fun c_10 => ?_)
  · skip
    refine aw_aload_0 hX dX8_draught_15 ?_
    refine aw_iload_1 hX dX8_draught_16 ?_
    refine aw_iconst hX (v := nI 0) (by decide) dX8_draught_17 ?_
    refine cv_X8_of hX ml_X8_99 dX8_draught_18 (m_X8_of _ G S i 0 hi (by decide)) (Nat.le_of_ble_eq_true rfl) ?_
    refine aw_ti hd ?_
    refine aw_istore_2 hX rfl (by decide) dX8_draught_21 ?_
    refine aw_aload_0 hX dX8_draught_22 ?_
    refine aw_dup hX rfl dX8_draught_23 ?_
    refine ag_X8_trace hX fl_X8_102 dX8_draught_24 ?_
    refine aw_iload_2 hX dX8_draught_27 ?_
    first | with_reducible refine aw_ifneB hX (tgt := 35) dX8_draught_28 (by decide) (fun c_28 => ?_) (fun c_28 => ?_) | refine aw_ifne hX (tgt := 35) dX8_draught_28 (by decide) (fun c_28 => ?_) (fun c_28 => ?_)
    · skip
      refine aw_iload_2 hX dX8_draught_35 ?_
      refine aw_iconst hX (v := nI 1) (by decide) dX8_draught_36 ?_
      first | with_reducible refine aw_icmpneN hX (tgt := 46) dX8_draught_37 (by decide) (by omega) (by omega) (fun c_37 => ?_) (fun c_37 => ?_) | refine aw_icmpne hX (tgt := 46) dX8_draught_37 (by decide) (fun c_37 => ?_) (fun c_37 => ?_)
      · exact absurd rfl c_37
      · skip
        refine aw_ldc2 hX kc_X8_106 dX8_draught_40 ?_
        refine aw_goto hX (tgt := 49) dX8_draught_43 (by decide) ?_
        refine aw_ladd hX dX8_draught_49 ?_
        refine ap_X8_trace hX fl_X8_102 dX8_draught_50 ?_
        refine aw_aload_0 hX dX8_draught_53 ?_
        refine aw_iload_1 hX dX8_draught_54 ?_
        refine aw_iconst hX (v := nI 1) (by decide) dX8_draught_55 ?_
        refine cv_X8_of hX ml_X8_99 dX8_draught_56 (m_X8_of _ G (sL S 1 (S.2.2.1 1 + 11)) i 1 hi (by decide)) (Nat.le_of_ble_eq_true rfl) ?_
        refine aw_ti hk ?_
        refine aw_istore_3 hX rfl (by decide) dX8_draught_59 ?_
        refine aw_aload_0 hX dX8_draught_60 ?_
        refine aw_iload_1 hX dX8_draught_61 ?_
        refine aw_iconst hX (v := nI 2) (by decide) dX8_draught_62 ?_
        refine cv_X8_of hX ml_X8_99 dX8_draught_63 (m_X8_of _ G (sL S 1 (S.2.2.1 1 + 11)) i 2 hi (by decide)) (Nat.le_of_ble_eq_true rfl) ?_
        refine aw_iload_3 hX dX8_draught_66 ?_
        first | with_reducible refine aw_ifneB hX (tgt := 75) dX8_draught_67 (by decide) (fun c_67 => ?_) (fun c_67 => ?_) | refine aw_ifne hX (tgt := 75) dX8_draught_67 (by decide) (fun c_67 => ?_) (fun c_67 => ?_)
        · exact absurd rfl c_67
        · skip
          refine aw_bipush hX (v := nI 10) (by decide) dX8_draught_70 ?_
          refine aw_ti gp0 ?_
          refine aw_goto hX (tgt := 87) dX8_draught_72 (by decide) ?_
          first | with_reducible refine aw_imulN hX dX8_draught_87 ?_ | refine aw_imul hX dX8_draught_87 ?_
          refine aw_aload_0 hX dX8_draught_88 ?_
          refine aw_iload_1 hX dX8_draught_89 ?_
          refine aw_iconst hX (v := nI 3) (by decide) dX8_draught_90 ?_
          refine cv_X8_of hX ml_X8_99 dX8_draught_91 (m_X8_of _ G (sL S 1 (S.2.2.1 1 + 11)) i 3 hi (by decide)) (Nat.le_of_ble_eq_true rfl) ?_
          refine aw_idiv hX hw dX8_draught_94 ?_
          refine aw_istore_4 hX rfl (by decide) dX8_draught_95 ?_
          refine aw_iload_2 hX dX8_draught_97 ?_
          refine aw_ifle hX (tgt := 127) dX8_draught_98 (by decide) (fun c_98 => ?_) (fun c_98 => ?_)
          · exact absurd c_98 (by decide)
          · skip
            refine aw_iload_4 hX dX8_draught_101 ?_
            refine aw_iconst hX (v := nI 2) (by decide) dX8_draught_103 ?_
            refine aw_aload_0 hX dX8_draught_104 ?_
            refine aw_iload_1 hX dX8_draught_105 ?_
            refine aw_iconst hX (v := nI 4) (by decide) dX8_draught_106 ?_
            refine cv_X8_of hX ml_X8_99 dX8_draught_107 (m_X8_of _ G (sL S 1 (S.2.2.1 1 + 11)) i 4 hi (by decide)) (Nat.le_of_ble_eq_true rfl) ?_
            first | with_reducible refine aw_imulN hX dX8_draught_110 ?_ | refine aw_imul hX dX8_draught_110 ?_
            first | with_reducible refine aw_isubN hX (by omega) dX8_draught_111 ?_ | refine aw_isub hX dX8_draught_111 ?_
            refine aw_istore_4 hX rfl (by decide) dX8_draught_112 ?_
            refine aw_iload_4 hX dX8_draught_114 ?_
            refine aw_ifge hX (tgt := 123) dX8_draught_116 (by decide) (fun c_116 => ?_) (fun c_116 => ?_)
            · replace c_116 : 0 ≤ puM S i 0 - nI 2 * ofM S i 4 := c_116
              refine aw_iload_4 hX dX8_draught_123 ?_
              refine aw_istore_4 hX rfl (by decide) dX8_draught_125 ?_
              refine aw_iload_2 hX dX8_draught_127 ?_
              refine aw_iconst hX (v := nI 2) (by decide) dX8_draught_128 ?_
              first | with_reducible refine aw_icmpneN hX (tgt := 139) dX8_draught_129 (by decide) (by omega) (by omega) (fun c_129 => ?_) (fun c_129 => ?_) | refine aw_icmpne hX (tgt := 139) dX8_draught_129 (by decide) (fun c_129 => ?_) (fun c_129 => ?_)
              · skip
                refine aw_iload_4 hX dX8_draught_139 ?_
                refine aw_finI (hR _ _ dX8_draught_141) ?_ ?_
                · first | rfl | exact (if_pos c_116).symm | exact (if_neg c_116).symm | exact congrArg (fun z => z / nI 2) (if_pos c_116).symm | exact congrArg (fun z => z / nI 2) (if_neg c_116).symm
                · rfl
              · exact absurd c_129 (by decide)
            · replace c_116 : ¬ 0 ≤ puM S i 0 - nI 2 * ofM S i 4 := c_116
              refine aw_iconst hX (v := nI 0) (by decide) dX8_draught_119 ?_
              refine aw_goto hX (tgt := 125) dX8_draught_120 (by decide) ?_
              refine aw_istore_4 hX rfl (by decide) dX8_draught_125 ?_
              refine aw_iload_2 hX dX8_draught_127 ?_
              refine aw_iconst hX (v := nI 2) (by decide) dX8_draught_128 ?_
              first | with_reducible refine aw_icmpneN hX (tgt := 139) dX8_draught_129 (by decide) (by omega) (by omega) (fun c_129 => ?_) (fun c_129 => ?_) | refine aw_icmpne hX (tgt := 139) dX8_draught_129 (by decide) (fun c_129 => ?_) (fun c_129 => ?_)
              · skip
                refine aw_iload_4 hX dX8_draught_139 ?_
                refine aw_finI (hR _ _ dX8_draught_141) ?_ ?_
                · first | rfl | exact (if_pos c_116).symm | exact (if_neg c_116).symm | exact congrArg (fun z => z / nI 2) (if_pos c_116).symm | exact congrArg (fun z => z / nI 2) (if_neg c_116).symm
                · rfl
              · exact absurd c_129 (by decide)
    · exact absurd c_28 (by decide)
  · cases c_10
set_option maxHeartbeats 4000000 in
set_option maxRecDepth 100000 in
theorem m_X8_draught_11 (d : Nat) (G : GT) (S : St) (h13 : S.1 13 = 0) (i : Nat) (hi0 : i < S.1 18) (h18 : S.1 18 ≤ 12) (hw : ¬ ofM S i 3 = 0) (hk : ofM S i 1 = nI 1) (hd : ofM S i 0 = nI 1) : rX8_draught G (d + 3) [.ref (gad G 8), .int (nI i)] S (some (.int (mn0 (puM S i 1 - nI 2 * ofM S i 4)))) (sL S 1 (S.2.2.1 1 + 11)) := by
  have hi : i < 12 := by omega
  refine runs_I (d := (d + 2)) (by decide) (Nat.le_of_ble_eq_true rfl) (fun X (hX : XC X G (d + 2) RX8 cX8_draught 5) hR => ?_)
  show AW X G 0 [.ref (gad G 8), .int (nI i), .null, .null, .null] [] S
  refine aw_aload_0 hX dX8_draught_0 ?_
  refine aw_iconst hX (v := nI 0) (by decide) dX8_draught_1 ?_
  refine ap_X8_thrown hX fl_X8_57 dX8_draught_2 ?_
  refine aw_S (sN_self h13) ?_
  refine aw_aload_0 hX dX8_draught_5 ?_
  refine aw_iload_1 hX dX8_draught_6 ?_
  refine cv_X8_isFlue hX ml_X8_96 dX8_draught_7 (m_X8_isFlue _ G S _ true h18 (hasB_t hi0 (by omega))) (Nat.le_of_ble_eq_true rfl) ?_
  first | with_reducible refine aw_ifneB hX (tgt := 15) dX8_draught_10 (by decide) (fun c_10 => ?_) (fun c_10 => ?_) | refine aw_ifne hX (tgt := 15) dX8_draught_10 (by decide) (fun c_10 => ?_) (fun c_10 => ?_)
  · skip
    refine aw_aload_0 hX dX8_draught_15 ?_
    refine aw_iload_1 hX dX8_draught_16 ?_
    refine aw_iconst hX (v := nI 0) (by decide) dX8_draught_17 ?_
    refine cv_X8_of hX ml_X8_99 dX8_draught_18 (m_X8_of _ G S i 0 hi (by decide)) (Nat.le_of_ble_eq_true rfl) ?_
    refine aw_ti hd ?_
    refine aw_istore_2 hX rfl (by decide) dX8_draught_21 ?_
    refine aw_aload_0 hX dX8_draught_22 ?_
    refine aw_dup hX rfl dX8_draught_23 ?_
    refine ag_X8_trace hX fl_X8_102 dX8_draught_24 ?_
    refine aw_iload_2 hX dX8_draught_27 ?_
    first | with_reducible refine aw_ifneB hX (tgt := 35) dX8_draught_28 (by decide) (fun c_28 => ?_) (fun c_28 => ?_) | refine aw_ifne hX (tgt := 35) dX8_draught_28 (by decide) (fun c_28 => ?_) (fun c_28 => ?_)
    · skip
      refine aw_iload_2 hX dX8_draught_35 ?_
      refine aw_iconst hX (v := nI 1) (by decide) dX8_draught_36 ?_
      first | with_reducible refine aw_icmpneN hX (tgt := 46) dX8_draught_37 (by decide) (by omega) (by omega) (fun c_37 => ?_) (fun c_37 => ?_) | refine aw_icmpne hX (tgt := 46) dX8_draught_37 (by decide) (fun c_37 => ?_) (fun c_37 => ?_)
      · exact absurd rfl c_37
      · skip
        refine aw_ldc2 hX kc_X8_106 dX8_draught_40 ?_
        refine aw_goto hX (tgt := 49) dX8_draught_43 (by decide) ?_
        refine aw_ladd hX dX8_draught_49 ?_
        refine ap_X8_trace hX fl_X8_102 dX8_draught_50 ?_
        refine aw_aload_0 hX dX8_draught_53 ?_
        refine aw_iload_1 hX dX8_draught_54 ?_
        refine aw_iconst hX (v := nI 1) (by decide) dX8_draught_55 ?_
        refine cv_X8_of hX ml_X8_99 dX8_draught_56 (m_X8_of _ G (sL S 1 (S.2.2.1 1 + 11)) i 1 hi (by decide)) (Nat.le_of_ble_eq_true rfl) ?_
        refine aw_ti hk ?_
        refine aw_istore_3 hX rfl (by decide) dX8_draught_59 ?_
        refine aw_aload_0 hX dX8_draught_60 ?_
        refine aw_iload_1 hX dX8_draught_61 ?_
        refine aw_iconst hX (v := nI 2) (by decide) dX8_draught_62 ?_
        refine cv_X8_of hX ml_X8_99 dX8_draught_63 (m_X8_of _ G (sL S 1 (S.2.2.1 1 + 11)) i 2 hi (by decide)) (Nat.le_of_ble_eq_true rfl) ?_
        refine aw_iload_3 hX dX8_draught_66 ?_
        first | with_reducible refine aw_ifneB hX (tgt := 75) dX8_draught_67 (by decide) (fun c_67 => ?_) (fun c_67 => ?_) | refine aw_ifne hX (tgt := 75) dX8_draught_67 (by decide) (fun c_67 => ?_) (fun c_67 => ?_)
        · skip
          refine aw_iload_3 hX dX8_draught_75 ?_
          refine aw_iconst hX (v := nI 1) (by decide) dX8_draught_76 ?_
          first | with_reducible refine aw_icmpneN hX (tgt := 85) dX8_draught_77 (by decide) (by omega) (by omega) (fun c_77 => ?_) (fun c_77 => ?_) | refine aw_icmpne hX (tgt := 85) dX8_draught_77 (by decide) (fun c_77 => ?_) (fun c_77 => ?_)
          · exact absurd rfl c_77
          · skip
            refine aw_bipush hX (v := nI 30) (by decide) dX8_draught_80 ?_
            refine aw_ti gp1 ?_
            refine aw_goto hX (tgt := 87) dX8_draught_82 (by decide) ?_
            first | with_reducible refine aw_imulN hX dX8_draught_87 ?_ | refine aw_imul hX dX8_draught_87 ?_
            refine aw_aload_0 hX dX8_draught_88 ?_
            refine aw_iload_1 hX dX8_draught_89 ?_
            refine aw_iconst hX (v := nI 3) (by decide) dX8_draught_90 ?_
            refine cv_X8_of hX ml_X8_99 dX8_draught_91 (m_X8_of _ G (sL S 1 (S.2.2.1 1 + 11)) i 3 hi (by decide)) (Nat.le_of_ble_eq_true rfl) ?_
            refine aw_idiv hX hw dX8_draught_94 ?_
            refine aw_istore_4 hX rfl (by decide) dX8_draught_95 ?_
            refine aw_iload_2 hX dX8_draught_97 ?_
            refine aw_ifle hX (tgt := 127) dX8_draught_98 (by decide) (fun c_98 => ?_) (fun c_98 => ?_)
            · exact absurd c_98 (by decide)
            · skip
              refine aw_iload_4 hX dX8_draught_101 ?_
              refine aw_iconst hX (v := nI 2) (by decide) dX8_draught_103 ?_
              refine aw_aload_0 hX dX8_draught_104 ?_
              refine aw_iload_1 hX dX8_draught_105 ?_
              refine aw_iconst hX (v := nI 4) (by decide) dX8_draught_106 ?_
              refine cv_X8_of hX ml_X8_99 dX8_draught_107 (m_X8_of _ G (sL S 1 (S.2.2.1 1 + 11)) i 4 hi (by decide)) (Nat.le_of_ble_eq_true rfl) ?_
              first | with_reducible refine aw_imulN hX dX8_draught_110 ?_ | refine aw_imul hX dX8_draught_110 ?_
              first | with_reducible refine aw_isubN hX (by omega) dX8_draught_111 ?_ | refine aw_isub hX dX8_draught_111 ?_
              refine aw_istore_4 hX rfl (by decide) dX8_draught_112 ?_
              refine aw_iload_4 hX dX8_draught_114 ?_
              refine aw_ifge hX (tgt := 123) dX8_draught_116 (by decide) (fun c_116 => ?_) (fun c_116 => ?_)
              · replace c_116 : 0 ≤ puM S i 1 - nI 2 * ofM S i 4 := c_116
                refine aw_iload_4 hX dX8_draught_123 ?_
                refine aw_istore_4 hX rfl (by decide) dX8_draught_125 ?_
                refine aw_iload_2 hX dX8_draught_127 ?_
                refine aw_iconst hX (v := nI 2) (by decide) dX8_draught_128 ?_
                first | with_reducible refine aw_icmpneN hX (tgt := 139) dX8_draught_129 (by decide) (by omega) (by omega) (fun c_129 => ?_) (fun c_129 => ?_) | refine aw_icmpne hX (tgt := 139) dX8_draught_129 (by decide) (fun c_129 => ?_) (fun c_129 => ?_)
                · skip
                  refine aw_iload_4 hX dX8_draught_139 ?_
                  refine aw_finI (hR _ _ dX8_draught_141) ?_ ?_
                  · first | rfl | exact (if_pos c_116).symm | exact (if_neg c_116).symm | exact congrArg (fun z => z / nI 2) (if_pos c_116).symm | exact congrArg (fun z => z / nI 2) (if_neg c_116).symm
                  · rfl
                · exact absurd c_129 (by decide)
              · replace c_116 : ¬ 0 ≤ puM S i 1 - nI 2 * ofM S i 4 := c_116
                refine aw_iconst hX (v := nI 0) (by decide) dX8_draught_119 ?_
                refine aw_goto hX (tgt := 125) dX8_draught_120 (by decide) ?_
                refine aw_istore_4 hX rfl (by decide) dX8_draught_125 ?_
                refine aw_iload_2 hX dX8_draught_127 ?_
                refine aw_iconst hX (v := nI 2) (by decide) dX8_draught_128 ?_
                first | with_reducible refine aw_icmpneN hX (tgt := 139) dX8_draught_129 (by decide) (by omega) (by omega) (fun c_129 => ?_) (fun c_129 => ?_) | refine aw_icmpne hX (tgt := 139) dX8_draught_129 (by decide) (fun c_129 => ?_) (fun c_129 => ?_)
                · skip
                  refine aw_iload_4 hX dX8_draught_139 ?_
                  refine aw_finI (hR _ _ dX8_draught_141) ?_ ?_
                  · first | rfl | exact (if_pos c_116).symm | exact (if_neg c_116).symm | exact congrArg (fun z => z / nI 2) (if_pos c_116).symm | exact congrArg (fun z => z / nI 2) (if_neg c_116).symm
                  · rfl
                · exact absurd c_129 (by decide)
        · exact absurd c_67 (by decide)
    · exact absurd c_28 (by decide)
  · cases c_10
set_option maxHeartbeats 4000000 in
set_option maxRecDepth 100000 in
theorem m_X8_draught_12 (d : Nat) (G : GT) (S : St) (h13 : S.1 13 = 0) (i : Nat) (hi0 : i < S.1 18) (h18 : S.1 18 ≤ 12) (hw : ¬ ofM S i 3 = 0) (hk : ofM S i 1 = nI 2) (hd : ofM S i 0 = nI 1) : rX8_draught G (d + 3) [.ref (gad G 8), .int (nI i)] S (some (.int (mn0 (puM S i 2 - nI 2 * ofM S i 4)))) (sL S 1 (S.2.2.1 1 + 11)) := by
  have hi : i < 12 := by omega
  refine runs_I (d := (d + 2)) (by decide) (Nat.le_of_ble_eq_true rfl) (fun X (hX : XC X G (d + 2) RX8 cX8_draught 5) hR => ?_)
  show AW X G 0 [.ref (gad G 8), .int (nI i), .null, .null, .null] [] S
  refine aw_aload_0 hX dX8_draught_0 ?_
  refine aw_iconst hX (v := nI 0) (by decide) dX8_draught_1 ?_
  refine ap_X8_thrown hX fl_X8_57 dX8_draught_2 ?_
  refine aw_S (sN_self h13) ?_
  refine aw_aload_0 hX dX8_draught_5 ?_
  refine aw_iload_1 hX dX8_draught_6 ?_
  refine cv_X8_isFlue hX ml_X8_96 dX8_draught_7 (m_X8_isFlue _ G S _ true h18 (hasB_t hi0 (by omega))) (Nat.le_of_ble_eq_true rfl) ?_
  first | with_reducible refine aw_ifneB hX (tgt := 15) dX8_draught_10 (by decide) (fun c_10 => ?_) (fun c_10 => ?_) | refine aw_ifne hX (tgt := 15) dX8_draught_10 (by decide) (fun c_10 => ?_) (fun c_10 => ?_)
  · skip
    refine aw_aload_0 hX dX8_draught_15 ?_
    refine aw_iload_1 hX dX8_draught_16 ?_
    refine aw_iconst hX (v := nI 0) (by decide) dX8_draught_17 ?_
    refine cv_X8_of hX ml_X8_99 dX8_draught_18 (m_X8_of _ G S i 0 hi (by decide)) (Nat.le_of_ble_eq_true rfl) ?_
    refine aw_ti hd ?_
    refine aw_istore_2 hX rfl (by decide) dX8_draught_21 ?_
    refine aw_aload_0 hX dX8_draught_22 ?_
    refine aw_dup hX rfl dX8_draught_23 ?_
    refine ag_X8_trace hX fl_X8_102 dX8_draught_24 ?_
    refine aw_iload_2 hX dX8_draught_27 ?_
    first | with_reducible refine aw_ifneB hX (tgt := 35) dX8_draught_28 (by decide) (fun c_28 => ?_) (fun c_28 => ?_) | refine aw_ifne hX (tgt := 35) dX8_draught_28 (by decide) (fun c_28 => ?_) (fun c_28 => ?_)
    · skip
      refine aw_iload_2 hX dX8_draught_35 ?_
      refine aw_iconst hX (v := nI 1) (by decide) dX8_draught_36 ?_
      first | with_reducible refine aw_icmpneN hX (tgt := 46) dX8_draught_37 (by decide) (by omega) (by omega) (fun c_37 => ?_) (fun c_37 => ?_) | refine aw_icmpne hX (tgt := 46) dX8_draught_37 (by decide) (fun c_37 => ?_) (fun c_37 => ?_)
      · exact absurd rfl c_37
      · skip
        refine aw_ldc2 hX kc_X8_106 dX8_draught_40 ?_
        refine aw_goto hX (tgt := 49) dX8_draught_43 (by decide) ?_
        refine aw_ladd hX dX8_draught_49 ?_
        refine ap_X8_trace hX fl_X8_102 dX8_draught_50 ?_
        refine aw_aload_0 hX dX8_draught_53 ?_
        refine aw_iload_1 hX dX8_draught_54 ?_
        refine aw_iconst hX (v := nI 1) (by decide) dX8_draught_55 ?_
        refine cv_X8_of hX ml_X8_99 dX8_draught_56 (m_X8_of _ G (sL S 1 (S.2.2.1 1 + 11)) i 1 hi (by decide)) (Nat.le_of_ble_eq_true rfl) ?_
        refine aw_ti hk ?_
        refine aw_istore_3 hX rfl (by decide) dX8_draught_59 ?_
        refine aw_aload_0 hX dX8_draught_60 ?_
        refine aw_iload_1 hX dX8_draught_61 ?_
        refine aw_iconst hX (v := nI 2) (by decide) dX8_draught_62 ?_
        refine cv_X8_of hX ml_X8_99 dX8_draught_63 (m_X8_of _ G (sL S 1 (S.2.2.1 1 + 11)) i 2 hi (by decide)) (Nat.le_of_ble_eq_true rfl) ?_
        refine aw_iload_3 hX dX8_draught_66 ?_
        first | with_reducible refine aw_ifneB hX (tgt := 75) dX8_draught_67 (by decide) (fun c_67 => ?_) (fun c_67 => ?_) | refine aw_ifne hX (tgt := 75) dX8_draught_67 (by decide) (fun c_67 => ?_) (fun c_67 => ?_)
        · skip
          refine aw_iload_3 hX dX8_draught_75 ?_
          refine aw_iconst hX (v := nI 1) (by decide) dX8_draught_76 ?_
          first | with_reducible refine aw_icmpneN hX (tgt := 85) dX8_draught_77 (by decide) (by omega) (by omega) (fun c_77 => ?_) (fun c_77 => ?_) | refine aw_icmpne hX (tgt := 85) dX8_draught_77 (by decide) (fun c_77 => ?_) (fun c_77 => ?_)
          · skip
            refine aw_bipush hX (v := nI 40) (by decide) dX8_draught_85 ?_
            refine aw_ti gp2 ?_
            first | with_reducible refine aw_imulN hX dX8_draught_87 ?_ | refine aw_imul hX dX8_draught_87 ?_
            refine aw_aload_0 hX dX8_draught_88 ?_
            refine aw_iload_1 hX dX8_draught_89 ?_
            refine aw_iconst hX (v := nI 3) (by decide) dX8_draught_90 ?_
            refine cv_X8_of hX ml_X8_99 dX8_draught_91 (m_X8_of _ G (sL S 1 (S.2.2.1 1 + 11)) i 3 hi (by decide)) (Nat.le_of_ble_eq_true rfl) ?_
            refine aw_idiv hX hw dX8_draught_94 ?_
            refine aw_istore_4 hX rfl (by decide) dX8_draught_95 ?_
            refine aw_iload_2 hX dX8_draught_97 ?_
            refine aw_ifle hX (tgt := 127) dX8_draught_98 (by decide) (fun c_98 => ?_) (fun c_98 => ?_)
            · exact absurd c_98 (by decide)
            · skip
              refine aw_iload_4 hX dX8_draught_101 ?_
              refine aw_iconst hX (v := nI 2) (by decide) dX8_draught_103 ?_
              refine aw_aload_0 hX dX8_draught_104 ?_
              refine aw_iload_1 hX dX8_draught_105 ?_
              refine aw_iconst hX (v := nI 4) (by decide) dX8_draught_106 ?_
              refine cv_X8_of hX ml_X8_99 dX8_draught_107 (m_X8_of _ G (sL S 1 (S.2.2.1 1 + 11)) i 4 hi (by decide)) (Nat.le_of_ble_eq_true rfl) ?_
              first | with_reducible refine aw_imulN hX dX8_draught_110 ?_ | refine aw_imul hX dX8_draught_110 ?_
              first | with_reducible refine aw_isubN hX (by omega) dX8_draught_111 ?_ | refine aw_isub hX dX8_draught_111 ?_
              refine aw_istore_4 hX rfl (by decide) dX8_draught_112 ?_
              refine aw_iload_4 hX dX8_draught_114 ?_
              refine aw_ifge hX (tgt := 123) dX8_draught_116 (by decide) (fun c_116 => ?_) (fun c_116 => ?_)
              · replace c_116 : 0 ≤ puM S i 2 - nI 2 * ofM S i 4 := c_116
                refine aw_iload_4 hX dX8_draught_123 ?_
                refine aw_istore_4 hX rfl (by decide) dX8_draught_125 ?_
                refine aw_iload_2 hX dX8_draught_127 ?_
                refine aw_iconst hX (v := nI 2) (by decide) dX8_draught_128 ?_
                first | with_reducible refine aw_icmpneN hX (tgt := 139) dX8_draught_129 (by decide) (by omega) (by omega) (fun c_129 => ?_) (fun c_129 => ?_) | refine aw_icmpne hX (tgt := 139) dX8_draught_129 (by decide) (fun c_129 => ?_) (fun c_129 => ?_)
                · skip
                  refine aw_iload_4 hX dX8_draught_139 ?_
                  refine aw_finI (hR _ _ dX8_draught_141) ?_ ?_
                  · first | rfl | exact (if_pos c_116).symm | exact (if_neg c_116).symm | exact congrArg (fun z => z / nI 2) (if_pos c_116).symm | exact congrArg (fun z => z / nI 2) (if_neg c_116).symm
                  · rfl
                · exact absurd c_129 (by decide)
              · replace c_116 : ¬ 0 ≤ puM S i 2 - nI 2 * ofM S i 4 := c_116
                refine aw_iconst hX (v := nI 0) (by decide) dX8_draught_119 ?_
                refine aw_goto hX (tgt := 125) dX8_draught_120 (by decide) ?_
                refine aw_istore_4 hX rfl (by decide) dX8_draught_125 ?_
                refine aw_iload_2 hX dX8_draught_127 ?_
                refine aw_iconst hX (v := nI 2) (by decide) dX8_draught_128 ?_
                first | with_reducible refine aw_icmpneN hX (tgt := 139) dX8_draught_129 (by decide) (by omega) (by omega) (fun c_129 => ?_) (fun c_129 => ?_) | refine aw_icmpne hX (tgt := 139) dX8_draught_129 (by decide) (fun c_129 => ?_) (fun c_129 => ?_)
                · skip
                  refine aw_iload_4 hX dX8_draught_139 ?_
                  refine aw_finI (hR _ _ dX8_draught_141) ?_ ?_
                  · first | rfl | exact (if_pos c_116).symm | exact (if_neg c_116).symm | exact congrArg (fun z => z / nI 2) (if_pos c_116).symm | exact congrArg (fun z => z / nI 2) (if_neg c_116).symm
                  · rfl
                · exact absurd c_129 (by decide)
          · exact absurd c_77 (by decide)
        · exact absurd c_67 (by decide)
    · exact absurd c_28 (by decide)
  · cases c_10
set_option maxHeartbeats 4000000 in
set_option maxRecDepth 100000 in
theorem m_X8_draught_20 (d : Nat) (G : GT) (S : St) (h13 : S.1 13 = 0) (i : Nat) (hi0 : i < S.1 18) (h18 : S.1 18 ≤ 12) (hw : ¬ ofM S i 3 = 0) (hk : ofM S i 1 = nI 0) (hd : ofM S i 0 = nI 2) : rX8_draught G (d + 3) [.ref (gad G 8), .int (nI i)] S (some (.int (mn0 (puM S i 0 - nI 2 * ofM S i 4) / nI 2))) (sL S 1 (S.2.2.1 1 + 111)) := by
  have hi : i < 12 := by omega
  refine runs_I (d := (d + 2)) (by decide) (Nat.le_of_ble_eq_true rfl) (fun X (hX : XC X G (d + 2) RX8 cX8_draught 5) hR => ?_)
  show AW X G 0 [.ref (gad G 8), .int (nI i), .null, .null, .null] [] S
  refine aw_aload_0 hX dX8_draught_0 ?_
  refine aw_iconst hX (v := nI 0) (by decide) dX8_draught_1 ?_
  refine ap_X8_thrown hX fl_X8_57 dX8_draught_2 ?_
  refine aw_S (sN_self h13) ?_
  refine aw_aload_0 hX dX8_draught_5 ?_
  refine aw_iload_1 hX dX8_draught_6 ?_
  refine cv_X8_isFlue hX ml_X8_96 dX8_draught_7 (m_X8_isFlue _ G S _ true h18 (hasB_t hi0 (by omega))) (Nat.le_of_ble_eq_true rfl) ?_
  first | with_reducible refine aw_ifneB hX (tgt := 15) dX8_draught_10 (by decide) (fun c_10 => ?_) (fun c_10 => ?_) | refine aw_ifne hX (tgt := 15) dX8_draught_10 (by decide) (fun c_10 => ?_) (fun c_10 => ?_)
  · skip
    refine aw_aload_0 hX dX8_draught_15 ?_
    refine aw_iload_1 hX dX8_draught_16 ?_
    refine aw_iconst hX (v := nI 0) (by decide) dX8_draught_17 ?_
    refine cv_X8_of hX ml_X8_99 dX8_draught_18 (m_X8_of _ G S i 0 hi (by decide)) (Nat.le_of_ble_eq_true rfl) ?_
    refine aw_ti hd ?_
    refine aw_istore_2 hX rfl (by decide) dX8_draught_21 ?_
    refine aw_aload_0 hX dX8_draught_22 ?_
    refine aw_dup hX rfl dX8_draught_23 ?_
    refine ag_X8_trace hX fl_X8_102 dX8_draught_24 ?_
    refine aw_iload_2 hX dX8_draught_27 ?_
    first | with_reducible refine aw_ifneB hX (tgt := 35) dX8_draught_28 (by decide) (fun c_28 => ?_) (fun c_28 => ?_) | refine aw_ifne hX (tgt := 35) dX8_draught_28 (by decide) (fun c_28 => ?_) (fun c_28 => ?_)
    · skip
      refine aw_iload_2 hX dX8_draught_35 ?_
      refine aw_iconst hX (v := nI 1) (by decide) dX8_draught_36 ?_
      first | with_reducible refine aw_icmpneN hX (tgt := 46) dX8_draught_37 (by decide) (by omega) (by omega) (fun c_37 => ?_) (fun c_37 => ?_) | refine aw_icmpne hX (tgt := 46) dX8_draught_37 (by decide) (fun c_37 => ?_) (fun c_37 => ?_)
      · skip
        refine aw_ldc2 hX kc_X8_108 dX8_draught_46 ?_
        refine aw_ladd hX dX8_draught_49 ?_
        refine ap_X8_trace hX fl_X8_102 dX8_draught_50 ?_
        refine aw_aload_0 hX dX8_draught_53 ?_
        refine aw_iload_1 hX dX8_draught_54 ?_
        refine aw_iconst hX (v := nI 1) (by decide) dX8_draught_55 ?_
        refine cv_X8_of hX ml_X8_99 dX8_draught_56 (m_X8_of _ G (sL S 1 (S.2.2.1 1 + 111)) i 1 hi (by decide)) (Nat.le_of_ble_eq_true rfl) ?_
        refine aw_ti hk ?_
        refine aw_istore_3 hX rfl (by decide) dX8_draught_59 ?_
        refine aw_aload_0 hX dX8_draught_60 ?_
        refine aw_iload_1 hX dX8_draught_61 ?_
        refine aw_iconst hX (v := nI 2) (by decide) dX8_draught_62 ?_
        refine cv_X8_of hX ml_X8_99 dX8_draught_63 (m_X8_of _ G (sL S 1 (S.2.2.1 1 + 111)) i 2 hi (by decide)) (Nat.le_of_ble_eq_true rfl) ?_
        refine aw_iload_3 hX dX8_draught_66 ?_
        first | with_reducible refine aw_ifneB hX (tgt := 75) dX8_draught_67 (by decide) (fun c_67 => ?_) (fun c_67 => ?_) | refine aw_ifne hX (tgt := 75) dX8_draught_67 (by decide) (fun c_67 => ?_) (fun c_67 => ?_)
        · exact absurd rfl c_67
        · skip
          refine aw_bipush hX (v := nI 10) (by decide) dX8_draught_70 ?_
          refine aw_ti gp0 ?_
          refine aw_goto hX (tgt := 87) dX8_draught_72 (by decide) ?_
          first | with_reducible refine aw_imulN hX dX8_draught_87 ?_ | refine aw_imul hX dX8_draught_87 ?_
          refine aw_aload_0 hX dX8_draught_88 ?_
          refine aw_iload_1 hX dX8_draught_89 ?_
          refine aw_iconst hX (v := nI 3) (by decide) dX8_draught_90 ?_
          refine cv_X8_of hX ml_X8_99 dX8_draught_91 (m_X8_of _ G (sL S 1 (S.2.2.1 1 + 111)) i 3 hi (by decide)) (Nat.le_of_ble_eq_true rfl) ?_
          refine aw_idiv hX hw dX8_draught_94 ?_
          refine aw_istore_4 hX rfl (by decide) dX8_draught_95 ?_
          refine aw_iload_2 hX dX8_draught_97 ?_
          refine aw_ifle hX (tgt := 127) dX8_draught_98 (by decide) (fun c_98 => ?_) (fun c_98 => ?_)
          · exact absurd c_98 (by decide)
          · skip
            refine aw_iload_4 hX dX8_draught_101 ?_
            refine aw_iconst hX (v := nI 2) (by decide) dX8_draught_103 ?_
            refine aw_aload_0 hX dX8_draught_104 ?_
            refine aw_iload_1 hX dX8_draught_105 ?_
            refine aw_iconst hX (v := nI 4) (by decide) dX8_draught_106 ?_
            refine cv_X8_of hX ml_X8_99 dX8_draught_107 (m_X8_of _ G (sL S 1 (S.2.2.1 1 + 111)) i 4 hi (by decide)) (Nat.le_of_ble_eq_true rfl) ?_
            first | with_reducible refine aw_imulN hX dX8_draught_110 ?_ | refine aw_imul hX dX8_draught_110 ?_
            first | with_reducible refine aw_isubN hX (by omega) dX8_draught_111 ?_ | refine aw_isub hX dX8_draught_111 ?_
            refine aw_istore_4 hX rfl (by decide) dX8_draught_112 ?_
            refine aw_iload_4 hX dX8_draught_114 ?_
            refine aw_ifge hX (tgt := 123) dX8_draught_116 (by decide) (fun c_116 => ?_) (fun c_116 => ?_)
            · replace c_116 : 0 ≤ puM S i 0 - nI 2 * ofM S i 4 := c_116
              refine aw_iload_4 hX dX8_draught_123 ?_
              refine aw_istore_4 hX rfl (by decide) dX8_draught_125 ?_
              refine aw_iload_2 hX dX8_draught_127 ?_
              refine aw_iconst hX (v := nI 2) (by decide) dX8_draught_128 ?_
              first | with_reducible refine aw_icmpneN hX (tgt := 139) dX8_draught_129 (by decide) (by omega) (by omega) (fun c_129 => ?_) (fun c_129 => ?_) | refine aw_icmpne hX (tgt := 139) dX8_draught_129 (by decide) (fun c_129 => ?_) (fun c_129 => ?_)
              · exact absurd rfl c_129
              · skip
                refine aw_iload_4 hX dX8_draught_132 ?_
                refine aw_iconst hX (v := nI 2) (by decide) dX8_draught_134 ?_
                refine aw_idiv hX (by decide) dX8_draught_135 ?_
                refine aw_goto hX (tgt := 141) dX8_draught_136 (by decide) ?_
                refine aw_finI (hR _ _ dX8_draught_141) ?_ ?_
                · first | rfl | exact (if_pos c_116).symm | exact (if_neg c_116).symm | exact congrArg (fun z => z / nI 2) (if_pos c_116).symm | exact congrArg (fun z => z / nI 2) (if_neg c_116).symm
                · rfl
            · replace c_116 : ¬ 0 ≤ puM S i 0 - nI 2 * ofM S i 4 := c_116
              refine aw_iconst hX (v := nI 0) (by decide) dX8_draught_119 ?_
              refine aw_goto hX (tgt := 125) dX8_draught_120 (by decide) ?_
              refine aw_istore_4 hX rfl (by decide) dX8_draught_125 ?_
              refine aw_iload_2 hX dX8_draught_127 ?_
              refine aw_iconst hX (v := nI 2) (by decide) dX8_draught_128 ?_
              first | with_reducible refine aw_icmpneN hX (tgt := 139) dX8_draught_129 (by decide) (by omega) (by omega) (fun c_129 => ?_) (fun c_129 => ?_) | refine aw_icmpne hX (tgt := 139) dX8_draught_129 (by decide) (fun c_129 => ?_) (fun c_129 => ?_)
              · exact absurd rfl c_129
              · skip
                refine aw_iload_4 hX dX8_draught_132 ?_
                refine aw_iconst hX (v := nI 2) (by decide) dX8_draught_134 ?_
                refine aw_idiv hX (by decide) dX8_draught_135 ?_
                refine aw_goto hX (tgt := 141) dX8_draught_136 (by decide) ?_
                refine aw_finI (hR _ _ dX8_draught_141) ?_ ?_
                · first | rfl | exact (if_pos c_116).symm | exact (if_neg c_116).symm | exact congrArg (fun z => z / nI 2) (if_pos c_116).symm | exact congrArg (fun z => z / nI 2) (if_neg c_116).symm
                · rfl
      · exact absurd c_37 (by decide)
    · exact absurd c_28 (by decide)
  · cases c_10
set_option maxHeartbeats 4000000 in
set_option maxRecDepth 100000 in
theorem m_X8_draught_21 (d : Nat) (G : GT) (S : St) (h13 : S.1 13 = 0) (i : Nat) (hi0 : i < S.1 18) (h18 : S.1 18 ≤ 12) (hw : ¬ ofM S i 3 = 0) (hk : ofM S i 1 = nI 1) (hd : ofM S i 0 = nI 2) : rX8_draught G (d + 3) [.ref (gad G 8), .int (nI i)] S (some (.int (mn0 (puM S i 1 - nI 2 * ofM S i 4) / nI 2))) (sL S 1 (S.2.2.1 1 + 111)) := by
  have hi : i < 12 := by omega
  refine runs_I (d := (d + 2)) (by decide) (Nat.le_of_ble_eq_true rfl) (fun X (hX : XC X G (d + 2) RX8 cX8_draught 5) hR => ?_)
  show AW X G 0 [.ref (gad G 8), .int (nI i), .null, .null, .null] [] S
  refine aw_aload_0 hX dX8_draught_0 ?_
  refine aw_iconst hX (v := nI 0) (by decide) dX8_draught_1 ?_
  refine ap_X8_thrown hX fl_X8_57 dX8_draught_2 ?_
  refine aw_S (sN_self h13) ?_
  refine aw_aload_0 hX dX8_draught_5 ?_
  refine aw_iload_1 hX dX8_draught_6 ?_
  refine cv_X8_isFlue hX ml_X8_96 dX8_draught_7 (m_X8_isFlue _ G S _ true h18 (hasB_t hi0 (by omega))) (Nat.le_of_ble_eq_true rfl) ?_
  first | with_reducible refine aw_ifneB hX (tgt := 15) dX8_draught_10 (by decide) (fun c_10 => ?_) (fun c_10 => ?_) | refine aw_ifne hX (tgt := 15) dX8_draught_10 (by decide) (fun c_10 => ?_) (fun c_10 => ?_)
  · skip
    refine aw_aload_0 hX dX8_draught_15 ?_
    refine aw_iload_1 hX dX8_draught_16 ?_
    refine aw_iconst hX (v := nI 0) (by decide) dX8_draught_17 ?_
    refine cv_X8_of hX ml_X8_99 dX8_draught_18 (m_X8_of _ G S i 0 hi (by decide)) (Nat.le_of_ble_eq_true rfl) ?_
    refine aw_ti hd ?_
    refine aw_istore_2 hX rfl (by decide) dX8_draught_21 ?_
    refine aw_aload_0 hX dX8_draught_22 ?_
    refine aw_dup hX rfl dX8_draught_23 ?_
    refine ag_X8_trace hX fl_X8_102 dX8_draught_24 ?_
    refine aw_iload_2 hX dX8_draught_27 ?_
    first | with_reducible refine aw_ifneB hX (tgt := 35) dX8_draught_28 (by decide) (fun c_28 => ?_) (fun c_28 => ?_) | refine aw_ifne hX (tgt := 35) dX8_draught_28 (by decide) (fun c_28 => ?_) (fun c_28 => ?_)
    · skip
      refine aw_iload_2 hX dX8_draught_35 ?_
      refine aw_iconst hX (v := nI 1) (by decide) dX8_draught_36 ?_
      first | with_reducible refine aw_icmpneN hX (tgt := 46) dX8_draught_37 (by decide) (by omega) (by omega) (fun c_37 => ?_) (fun c_37 => ?_) | refine aw_icmpne hX (tgt := 46) dX8_draught_37 (by decide) (fun c_37 => ?_) (fun c_37 => ?_)
      · skip
        refine aw_ldc2 hX kc_X8_108 dX8_draught_46 ?_
        refine aw_ladd hX dX8_draught_49 ?_
        refine ap_X8_trace hX fl_X8_102 dX8_draught_50 ?_
        refine aw_aload_0 hX dX8_draught_53 ?_
        refine aw_iload_1 hX dX8_draught_54 ?_
        refine aw_iconst hX (v := nI 1) (by decide) dX8_draught_55 ?_
        refine cv_X8_of hX ml_X8_99 dX8_draught_56 (m_X8_of _ G (sL S 1 (S.2.2.1 1 + 111)) i 1 hi (by decide)) (Nat.le_of_ble_eq_true rfl) ?_
        refine aw_ti hk ?_
        refine aw_istore_3 hX rfl (by decide) dX8_draught_59 ?_
        refine aw_aload_0 hX dX8_draught_60 ?_
        refine aw_iload_1 hX dX8_draught_61 ?_
        refine aw_iconst hX (v := nI 2) (by decide) dX8_draught_62 ?_
        refine cv_X8_of hX ml_X8_99 dX8_draught_63 (m_X8_of _ G (sL S 1 (S.2.2.1 1 + 111)) i 2 hi (by decide)) (Nat.le_of_ble_eq_true rfl) ?_
        refine aw_iload_3 hX dX8_draught_66 ?_
        first | with_reducible refine aw_ifneB hX (tgt := 75) dX8_draught_67 (by decide) (fun c_67 => ?_) (fun c_67 => ?_) | refine aw_ifne hX (tgt := 75) dX8_draught_67 (by decide) (fun c_67 => ?_) (fun c_67 => ?_)
        · skip
          refine aw_iload_3 hX dX8_draught_75 ?_
          refine aw_iconst hX (v := nI 1) (by decide) dX8_draught_76 ?_
          first | with_reducible refine aw_icmpneN hX (tgt := 85) dX8_draught_77 (by decide) (by omega) (by omega) (fun c_77 => ?_) (fun c_77 => ?_) | refine aw_icmpne hX (tgt := 85) dX8_draught_77 (by decide) (fun c_77 => ?_) (fun c_77 => ?_)
          · exact absurd rfl c_77
          · skip
            refine aw_bipush hX (v := nI 30) (by decide) dX8_draught_80 ?_
            refine aw_ti gp1 ?_
            refine aw_goto hX (tgt := 87) dX8_draught_82 (by decide) ?_
            first | with_reducible refine aw_imulN hX dX8_draught_87 ?_ | refine aw_imul hX dX8_draught_87 ?_
            refine aw_aload_0 hX dX8_draught_88 ?_
            refine aw_iload_1 hX dX8_draught_89 ?_
            refine aw_iconst hX (v := nI 3) (by decide) dX8_draught_90 ?_
            refine cv_X8_of hX ml_X8_99 dX8_draught_91 (m_X8_of _ G (sL S 1 (S.2.2.1 1 + 111)) i 3 hi (by decide)) (Nat.le_of_ble_eq_true rfl) ?_
            refine aw_idiv hX hw dX8_draught_94 ?_
            refine aw_istore_4 hX rfl (by decide) dX8_draught_95 ?_
            refine aw_iload_2 hX dX8_draught_97 ?_
            refine aw_ifle hX (tgt := 127) dX8_draught_98 (by decide) (fun c_98 => ?_) (fun c_98 => ?_)
            · exact absurd c_98 (by decide)
            · skip
              refine aw_iload_4 hX dX8_draught_101 ?_
              refine aw_iconst hX (v := nI 2) (by decide) dX8_draught_103 ?_
              refine aw_aload_0 hX dX8_draught_104 ?_
              refine aw_iload_1 hX dX8_draught_105 ?_
              refine aw_iconst hX (v := nI 4) (by decide) dX8_draught_106 ?_
              refine cv_X8_of hX ml_X8_99 dX8_draught_107 (m_X8_of _ G (sL S 1 (S.2.2.1 1 + 111)) i 4 hi (by decide)) (Nat.le_of_ble_eq_true rfl) ?_
              first | with_reducible refine aw_imulN hX dX8_draught_110 ?_ | refine aw_imul hX dX8_draught_110 ?_
              first | with_reducible refine aw_isubN hX (by omega) dX8_draught_111 ?_ | refine aw_isub hX dX8_draught_111 ?_
              refine aw_istore_4 hX rfl (by decide) dX8_draught_112 ?_
              refine aw_iload_4 hX dX8_draught_114 ?_
              refine aw_ifge hX (tgt := 123) dX8_draught_116 (by decide) (fun c_116 => ?_) (fun c_116 => ?_)
              · replace c_116 : 0 ≤ puM S i 1 - nI 2 * ofM S i 4 := c_116
                refine aw_iload_4 hX dX8_draught_123 ?_
                refine aw_istore_4 hX rfl (by decide) dX8_draught_125 ?_
                refine aw_iload_2 hX dX8_draught_127 ?_
                refine aw_iconst hX (v := nI 2) (by decide) dX8_draught_128 ?_
                first | with_reducible refine aw_icmpneN hX (tgt := 139) dX8_draught_129 (by decide) (by omega) (by omega) (fun c_129 => ?_) (fun c_129 => ?_) | refine aw_icmpne hX (tgt := 139) dX8_draught_129 (by decide) (fun c_129 => ?_) (fun c_129 => ?_)
                · exact absurd rfl c_129
                · skip
                  refine aw_iload_4 hX dX8_draught_132 ?_
                  refine aw_iconst hX (v := nI 2) (by decide) dX8_draught_134 ?_
                  refine aw_idiv hX (by decide) dX8_draught_135 ?_
                  refine aw_goto hX (tgt := 141) dX8_draught_136 (by decide) ?_
                  refine aw_finI (hR _ _ dX8_draught_141) ?_ ?_
                  · first | rfl | exact (if_pos c_116).symm | exact (if_neg c_116).symm | exact congrArg (fun z => z / nI 2) (if_pos c_116).symm | exact congrArg (fun z => z / nI 2) (if_neg c_116).symm
                  · rfl
              · replace c_116 : ¬ 0 ≤ puM S i 1 - nI 2 * ofM S i 4 := c_116
                refine aw_iconst hX (v := nI 0) (by decide) dX8_draught_119 ?_
                refine aw_goto hX (tgt := 125) dX8_draught_120 (by decide) ?_
                refine aw_istore_4 hX rfl (by decide) dX8_draught_125 ?_
                refine aw_iload_2 hX dX8_draught_127 ?_
                refine aw_iconst hX (v := nI 2) (by decide) dX8_draught_128 ?_
                first | with_reducible refine aw_icmpneN hX (tgt := 139) dX8_draught_129 (by decide) (by omega) (by omega) (fun c_129 => ?_) (fun c_129 => ?_) | refine aw_icmpne hX (tgt := 139) dX8_draught_129 (by decide) (fun c_129 => ?_) (fun c_129 => ?_)
                · exact absurd rfl c_129
                · skip
                  refine aw_iload_4 hX dX8_draught_132 ?_
                  refine aw_iconst hX (v := nI 2) (by decide) dX8_draught_134 ?_
                  refine aw_idiv hX (by decide) dX8_draught_135 ?_
                  refine aw_goto hX (tgt := 141) dX8_draught_136 (by decide) ?_
                  refine aw_finI (hR _ _ dX8_draught_141) ?_ ?_
                  · first | rfl | exact (if_pos c_116).symm | exact (if_neg c_116).symm | exact congrArg (fun z => z / nI 2) (if_pos c_116).symm | exact congrArg (fun z => z / nI 2) (if_neg c_116).symm
                  · rfl
        · exact absurd c_67 (by decide)
      · exact absurd c_37 (by decide)
    · exact absurd c_28 (by decide)
  · cases c_10
set_option maxHeartbeats 4000000 in
set_option maxRecDepth 100000 in
theorem m_X8_draught_22 (d : Nat) (G : GT) (S : St) (h13 : S.1 13 = 0) (i : Nat) (hi0 : i < S.1 18) (h18 : S.1 18 ≤ 12) (hw : ¬ ofM S i 3 = 0) (hk : ofM S i 1 = nI 2) (hd : ofM S i 0 = nI 2) : rX8_draught G (d + 3) [.ref (gad G 8), .int (nI i)] S (some (.int (mn0 (puM S i 2 - nI 2 * ofM S i 4) / nI 2))) (sL S 1 (S.2.2.1 1 + 111)) := by
  have hi : i < 12 := by omega
  refine runs_I (d := (d + 2)) (by decide) (Nat.le_of_ble_eq_true rfl) (fun X (hX : XC X G (d + 2) RX8 cX8_draught 5) hR => ?_)
  show AW X G 0 [.ref (gad G 8), .int (nI i), .null, .null, .null] [] S
  refine aw_aload_0 hX dX8_draught_0 ?_
  refine aw_iconst hX (v := nI 0) (by decide) dX8_draught_1 ?_
  refine ap_X8_thrown hX fl_X8_57 dX8_draught_2 ?_
  refine aw_S (sN_self h13) ?_
  refine aw_aload_0 hX dX8_draught_5 ?_
  refine aw_iload_1 hX dX8_draught_6 ?_
  refine cv_X8_isFlue hX ml_X8_96 dX8_draught_7 (m_X8_isFlue _ G S _ true h18 (hasB_t hi0 (by omega))) (Nat.le_of_ble_eq_true rfl) ?_
  first | with_reducible refine aw_ifneB hX (tgt := 15) dX8_draught_10 (by decide) (fun c_10 => ?_) (fun c_10 => ?_) | refine aw_ifne hX (tgt := 15) dX8_draught_10 (by decide) (fun c_10 => ?_) (fun c_10 => ?_)
  · skip
    refine aw_aload_0 hX dX8_draught_15 ?_
    refine aw_iload_1 hX dX8_draught_16 ?_
    refine aw_iconst hX (v := nI 0) (by decide) dX8_draught_17 ?_
    refine cv_X8_of hX ml_X8_99 dX8_draught_18 (m_X8_of _ G S i 0 hi (by decide)) (Nat.le_of_ble_eq_true rfl) ?_
    refine aw_ti hd ?_
    refine aw_istore_2 hX rfl (by decide) dX8_draught_21 ?_
    refine aw_aload_0 hX dX8_draught_22 ?_
    refine aw_dup hX rfl dX8_draught_23 ?_
    refine ag_X8_trace hX fl_X8_102 dX8_draught_24 ?_
    refine aw_iload_2 hX dX8_draught_27 ?_
    first | with_reducible refine aw_ifneB hX (tgt := 35) dX8_draught_28 (by decide) (fun c_28 => ?_) (fun c_28 => ?_) | refine aw_ifne hX (tgt := 35) dX8_draught_28 (by decide) (fun c_28 => ?_) (fun c_28 => ?_)
    · skip
      refine aw_iload_2 hX dX8_draught_35 ?_
      refine aw_iconst hX (v := nI 1) (by decide) dX8_draught_36 ?_
      first | with_reducible refine aw_icmpneN hX (tgt := 46) dX8_draught_37 (by decide) (by omega) (by omega) (fun c_37 => ?_) (fun c_37 => ?_) | refine aw_icmpne hX (tgt := 46) dX8_draught_37 (by decide) (fun c_37 => ?_) (fun c_37 => ?_)
      · skip
        refine aw_ldc2 hX kc_X8_108 dX8_draught_46 ?_
        refine aw_ladd hX dX8_draught_49 ?_
        refine ap_X8_trace hX fl_X8_102 dX8_draught_50 ?_
        refine aw_aload_0 hX dX8_draught_53 ?_
        refine aw_iload_1 hX dX8_draught_54 ?_
        refine aw_iconst hX (v := nI 1) (by decide) dX8_draught_55 ?_
        refine cv_X8_of hX ml_X8_99 dX8_draught_56 (m_X8_of _ G (sL S 1 (S.2.2.1 1 + 111)) i 1 hi (by decide)) (Nat.le_of_ble_eq_true rfl) ?_
        refine aw_ti hk ?_
        refine aw_istore_3 hX rfl (by decide) dX8_draught_59 ?_
        refine aw_aload_0 hX dX8_draught_60 ?_
        refine aw_iload_1 hX dX8_draught_61 ?_
        refine aw_iconst hX (v := nI 2) (by decide) dX8_draught_62 ?_
        refine cv_X8_of hX ml_X8_99 dX8_draught_63 (m_X8_of _ G (sL S 1 (S.2.2.1 1 + 111)) i 2 hi (by decide)) (Nat.le_of_ble_eq_true rfl) ?_
        refine aw_iload_3 hX dX8_draught_66 ?_
        first | with_reducible refine aw_ifneB hX (tgt := 75) dX8_draught_67 (by decide) (fun c_67 => ?_) (fun c_67 => ?_) | refine aw_ifne hX (tgt := 75) dX8_draught_67 (by decide) (fun c_67 => ?_) (fun c_67 => ?_)
        · skip
          refine aw_iload_3 hX dX8_draught_75 ?_
          refine aw_iconst hX (v := nI 1) (by decide) dX8_draught_76 ?_
          first | with_reducible refine aw_icmpneN hX (tgt := 85) dX8_draught_77 (by decide) (by omega) (by omega) (fun c_77 => ?_) (fun c_77 => ?_) | refine aw_icmpne hX (tgt := 85) dX8_draught_77 (by decide) (fun c_77 => ?_) (fun c_77 => ?_)
          · skip
            refine aw_bipush hX (v := nI 40) (by decide) dX8_draught_85 ?_
            refine aw_ti gp2 ?_
            first | with_reducible refine aw_imulN hX dX8_draught_87 ?_ | refine aw_imul hX dX8_draught_87 ?_
            refine aw_aload_0 hX dX8_draught_88 ?_
            refine aw_iload_1 hX dX8_draught_89 ?_
            refine aw_iconst hX (v := nI 3) (by decide) dX8_draught_90 ?_
            refine cv_X8_of hX ml_X8_99 dX8_draught_91 (m_X8_of _ G (sL S 1 (S.2.2.1 1 + 111)) i 3 hi (by decide)) (Nat.le_of_ble_eq_true rfl) ?_
            refine aw_idiv hX hw dX8_draught_94 ?_
            refine aw_istore_4 hX rfl (by decide) dX8_draught_95 ?_
            refine aw_iload_2 hX dX8_draught_97 ?_
            refine aw_ifle hX (tgt := 127) dX8_draught_98 (by decide) (fun c_98 => ?_) (fun c_98 => ?_)
            · exact absurd c_98 (by decide)
            · skip
              refine aw_iload_4 hX dX8_draught_101 ?_
              refine aw_iconst hX (v := nI 2) (by decide) dX8_draught_103 ?_
              refine aw_aload_0 hX dX8_draught_104 ?_
              refine aw_iload_1 hX dX8_draught_105 ?_
              refine aw_iconst hX (v := nI 4) (by decide) dX8_draught_106 ?_
              refine cv_X8_of hX ml_X8_99 dX8_draught_107 (m_X8_of _ G (sL S 1 (S.2.2.1 1 + 111)) i 4 hi (by decide)) (Nat.le_of_ble_eq_true rfl) ?_
              first | with_reducible refine aw_imulN hX dX8_draught_110 ?_ | refine aw_imul hX dX8_draught_110 ?_
              first | with_reducible refine aw_isubN hX (by omega) dX8_draught_111 ?_ | refine aw_isub hX dX8_draught_111 ?_
              refine aw_istore_4 hX rfl (by decide) dX8_draught_112 ?_
              refine aw_iload_4 hX dX8_draught_114 ?_
              refine aw_ifge hX (tgt := 123) dX8_draught_116 (by decide) (fun c_116 => ?_) (fun c_116 => ?_)
              · replace c_116 : 0 ≤ puM S i 2 - nI 2 * ofM S i 4 := c_116
                refine aw_iload_4 hX dX8_draught_123 ?_
                refine aw_istore_4 hX rfl (by decide) dX8_draught_125 ?_
                refine aw_iload_2 hX dX8_draught_127 ?_
                refine aw_iconst hX (v := nI 2) (by decide) dX8_draught_128 ?_
                first | with_reducible refine aw_icmpneN hX (tgt := 139) dX8_draught_129 (by decide) (by omega) (by omega) (fun c_129 => ?_) (fun c_129 => ?_) | refine aw_icmpne hX (tgt := 139) dX8_draught_129 (by decide) (fun c_129 => ?_) (fun c_129 => ?_)
                · exact absurd rfl c_129
                · skip
                  refine aw_iload_4 hX dX8_draught_132 ?_
                  refine aw_iconst hX (v := nI 2) (by decide) dX8_draught_134 ?_
                  refine aw_idiv hX (by decide) dX8_draught_135 ?_
                  refine aw_goto hX (tgt := 141) dX8_draught_136 (by decide) ?_
                  refine aw_finI (hR _ _ dX8_draught_141) ?_ ?_
                  · first | rfl | exact (if_pos c_116).symm | exact (if_neg c_116).symm | exact congrArg (fun z => z / nI 2) (if_pos c_116).symm | exact congrArg (fun z => z / nI 2) (if_neg c_116).symm
                  · rfl
              · replace c_116 : ¬ 0 ≤ puM S i 2 - nI 2 * ofM S i 4 := c_116
                refine aw_iconst hX (v := nI 0) (by decide) dX8_draught_119 ?_
                refine aw_goto hX (tgt := 125) dX8_draught_120 (by decide) ?_
                refine aw_istore_4 hX rfl (by decide) dX8_draught_125 ?_
                refine aw_iload_2 hX dX8_draught_127 ?_
                refine aw_iconst hX (v := nI 2) (by decide) dX8_draught_128 ?_
                first | with_reducible refine aw_icmpneN hX (tgt := 139) dX8_draught_129 (by decide) (by omega) (by omega) (fun c_129 => ?_) (fun c_129 => ?_) | refine aw_icmpne hX (tgt := 139) dX8_draught_129 (by decide) (fun c_129 => ?_) (fun c_129 => ?_)
                · exact absurd rfl c_129
                · skip
                  refine aw_iload_4 hX dX8_draught_132 ?_
                  refine aw_iconst hX (v := nI 2) (by decide) dX8_draught_134 ?_
                  refine aw_idiv hX (by decide) dX8_draught_135 ?_
                  refine aw_goto hX (tgt := 141) dX8_draught_136 (by decide) ?_
                  refine aw_finI (hR _ _ dX8_draught_141) ?_ ?_
                  · first | rfl | exact (if_pos c_116).symm | exact (if_neg c_116).symm | exact congrArg (fun z => z / nI 2) (if_pos c_116).symm | exact congrArg (fun z => z / nI 2) (if_neg c_116).symm
                  · rfl
          · exact absurd c_77 (by decide)
        · exact absurd c_67 (by decide)
      · exact absurd c_37 (by decide)
    · exact absurd c_28 (by decide)
  · cases c_10
theorem m_X8_draught_0 (d : Nat) (G : GT) (S : St) (h13 : S.1 13 = 0) (i : Nat) (hi0 : i < S.1 18) (h18 : S.1 18 ≤ 12) (hw : ¬ ofM S i 3 = 0) (k : Nat) (hk : ofM S i 1 = nI k) (hk3 : k < 3) (hd : ofM S i 0 = nI 0) : rX8_draught G (d + 3) [.ref (gad G 8), .int (nI i)] S (some (.int (puM S i k))) (sL S 1 (S.2.2.1 1 + 1)) := by
  rcases (show k = 0 ∨ k = 1 ∨ k = 2 by omega) with rfl | rfl | rfl
  · exact m_X8_draught_00 d G S h13 i hi0 h18 hw hk hd
  · exact m_X8_draught_01 d G S h13 i hi0 h18 hw hk hd
  · exact m_X8_draught_02 d G S h13 i hi0 h18 hw hk hd
theorem m_X8_draught_1 (d : Nat) (G : GT) (S : St) (h13 : S.1 13 = 0) (i : Nat) (hi0 : i < S.1 18) (h18 : S.1 18 ≤ 12) (hw : ¬ ofM S i 3 = 0) (k : Nat) (hk : ofM S i 1 = nI k) (hk3 : k < 3) (hd : ofM S i 0 = nI 1) : rX8_draught G (d + 3) [.ref (gad G 8), .int (nI i)] S (some (.int (mn0 (puM S i k - nI 2 * ofM S i 4)))) (sL S 1 (S.2.2.1 1 + 11)) := by
  rcases (show k = 0 ∨ k = 1 ∨ k = 2 by omega) with rfl | rfl | rfl
  · exact m_X8_draught_10 d G S h13 i hi0 h18 hw hk hd
  · exact m_X8_draught_11 d G S h13 i hi0 h18 hw hk hd
  · exact m_X8_draught_12 d G S h13 i hi0 h18 hw hk hd
theorem m_X8_draught_2 (d : Nat) (G : GT) (S : St) (h13 : S.1 13 = 0) (i : Nat) (hi0 : i < S.1 18) (h18 : S.1 18 ≤ 12) (hw : ¬ ofM S i 3 = 0) (k : Nat) (hk : ofM S i 1 = nI k) (hk3 : k < 3) (hd : ofM S i 0 = nI 2) : rX8_draught G (d + 3) [.ref (gad G 8), .int (nI i)] S (some (.int (mn0 (puM S i k - nI 2 * ofM S i 4) / nI 2))) (sL S 1 (S.2.2.1 1 + 111)) := by
  rcases (show k = 0 ∨ k = 1 ∨ k = 2 by omega) with rfl | rfl | rfl
  · exact m_X8_draught_20 d G S h13 i hi0 h18 hw hk hd
  · exact m_X8_draught_21 d G S h13 i hi0 h18 hw hk hd
  · exact m_X8_draught_22 d G S h13 i hi0 h18 hw hk hd
set_option maxHeartbeats 4000000 in
set_option maxRecDepth 100000 in
theorem m_X8_about_bad (d : Nat) (G : GT) (S : St) (h13 : S.1 13 = 0) (f w : Int32) (h18 : S.1 18 ≤ 12) (h : (hasB f (S.1 18) && inR w (nI 0) (nI 7)) = false) : rX8_about G (d + 3) [.ref (gad G 8), .int f, .int w] S (some (.int (-1))) S := by
  refine runs_I (d := (d + 2)) (by decide) (Nat.le_of_ble_eq_true rfl) (fun X (hX : XC X G (d + 2) RX8 cX8_about 3) hR => ?_)
  show AW X G 0 [.ref (gad G 8), .int f, .int w] [] S
  refine aw_aload_0 hX dX8_about_0 ?_
  refine aw_iconst hX (v := nI 0) (by decide) dX8_about_1 ?_
  refine ap_X8_thrown hX fl_X8_57 dX8_about_2 ?_
  refine aw_S (sN_self h13) ?_
  refine aw_aload_0 hX dX8_about_5 ?_
  refine aw_iload_1 hX dX8_about_6 ?_
  refine cv_X8_isFlue hX ml_X8_96 dX8_about_7 (m_X8_isFlue _ G S _ _ h18 rfl) (Nat.le_of_ble_eq_true rfl) ?_
  first | with_reducible refine aw_ifeqB hX (tgt := 23) dX8_about_10 (by decide) (fun c_10 => ?_) (fun c_10 => ?_) | refine aw_ifeq hX (tgt := 23) dX8_about_10 (by decide) (fun c_10 => ?_) (fun c_10 => ?_)
  · skip
    refine aw_iconst hX (v := (-1)) (by decide) dX8_about_23 ?_
    refine aw_finI (hR _ _ dX8_about_24) ?_ ?_
    · rfl
    · rfl
  · skip
    refine aw_iload_2 hX dX8_about_13 ?_
    refine aw_iconst hX (v := nI 0) (by decide) dX8_about_14 ?_
    refine aw_bipush hX (v := nI 7) (by decide) dX8_about_15 ?_
    refine cs_X8_in hX ml_X8_60 dX8_about_17 (m_X8_in _ G S _ _ _) (Nat.le_of_ble_eq_true rfl) ?_
    first | with_reducible refine aw_ifneB hX (tgt := 25) dX8_about_20 (by decide) (fun c_20 => ?_) (fun c_20 => ?_) | refine aw_ifne hX (tgt := 25) dX8_about_20 (by decide) (fun c_20 => ?_) (fun c_20 => ?_)
    · simp [c_10, c_20] at h
    · skip
      refine aw_iconst hX (v := (-1)) (by decide) dX8_about_23 ?_
      refine aw_finI (hR _ _ dX8_about_24) ?_ ?_
      · rfl
      · rfl
set_option maxHeartbeats 4000000 in
set_option maxRecDepth 100000 in
theorem m_X8_about_0 (d : Nat) (G : GT) (S : St) (h13 : S.1 13 = 0) (i : Nat) (hi0 : i < S.1 18) (h18 : S.1 18 ≤ 12)  : rX8_about G (d + 3) [.ref (gad G 8), .int (nI i), .int (nI 0)] S (some (.int (ofM S i 0))) S := by
  have hi : i < 12 := by omega
  refine runs_I (d := (d + 2)) (by decide) (Nat.le_of_ble_eq_true rfl) (fun X (hX : XC X G (d + 2) RX8 cX8_about 3) hR => ?_)
  show AW X G 0 [.ref (gad G 8), .int (nI i), .int (nI 0)] [] S
  refine aw_aload_0 hX dX8_about_0 ?_
  refine aw_iconst hX (v := nI 0) (by decide) dX8_about_1 ?_
  refine ap_X8_thrown hX fl_X8_57 dX8_about_2 ?_
  refine aw_S (sN_self h13) ?_
  refine aw_aload_0 hX dX8_about_5 ?_
  refine aw_iload_1 hX dX8_about_6 ?_
  refine cv_X8_isFlue hX ml_X8_96 dX8_about_7 (m_X8_isFlue _ G S _ true h18 (hasB_t hi0 (by omega))) (Nat.le_of_ble_eq_true rfl) ?_
  first | with_reducible refine aw_ifeqB hX (tgt := 23) dX8_about_10 (by decide) (fun c_10 => ?_) (fun c_10 => ?_) | refine aw_ifeq hX (tgt := 23) dX8_about_10 (by decide) (fun c_10 => ?_) (fun c_10 => ?_)
  · cases c_10
  · skip
    refine aw_iload_2 hX dX8_about_13 ?_
    refine aw_iconst hX (v := nI 0) (by decide) dX8_about_14 ?_
    refine aw_bipush hX (v := nI 7) (by decide) dX8_about_15 ?_
    refine cs_X8_in hX ml_X8_60 dX8_about_17 (m_X8_in_b _ G S _ _ _ true (by decide)) (Nat.le_of_ble_eq_true rfl) ?_
    first | with_reducible refine aw_ifneB hX (tgt := 25) dX8_about_20 (by decide) (fun c_20 => ?_) (fun c_20 => ?_) | refine aw_ifne hX (tgt := 25) dX8_about_20 (by decide) (fun c_20 => ?_) (fun c_20 => ?_)
    · skip
      refine aw_iload_2 hX dX8_about_25 ?_
      refine aw_tabOut hX (tgt := 104) dX8_about_26 (by decide) (by decide) ?_
      refine aw_aload_0 hX dX8_about_104 ?_
      refine aw_iload_1 hX dX8_about_105 ?_
      refine aw_iload_2 hX dX8_about_106 ?_
      refine cv_X8_of hX ml_X8_99 dX8_about_107 (m_X8_of _ G S i 0 hi (by decide)) (Nat.le_of_ble_eq_true rfl) ?_
      refine aw_finI (hR _ _ dX8_about_110) ?_ ?_
      · rfl
      · rfl
    · cases c_20
set_option maxHeartbeats 4000000 in
set_option maxRecDepth 100000 in
theorem m_X8_about_1 (d : Nat) (G : GT) (S : St) (h13 : S.1 13 = 0) (i : Nat) (hi0 : i < S.1 18) (h18 : S.1 18 ≤ 12)  : rX8_about G (d + 3) [.ref (gad G 8), .int (nI i), .int (nI 1)] S (some (.int (ofM S i 1))) S := by
  have hi : i < 12 := by omega
  refine runs_I (d := (d + 2)) (by decide) (Nat.le_of_ble_eq_true rfl) (fun X (hX : XC X G (d + 2) RX8 cX8_about 3) hR => ?_)
  show AW X G 0 [.ref (gad G 8), .int (nI i), .int (nI 1)] [] S
  refine aw_aload_0 hX dX8_about_0 ?_
  refine aw_iconst hX (v := nI 0) (by decide) dX8_about_1 ?_
  refine ap_X8_thrown hX fl_X8_57 dX8_about_2 ?_
  refine aw_S (sN_self h13) ?_
  refine aw_aload_0 hX dX8_about_5 ?_
  refine aw_iload_1 hX dX8_about_6 ?_
  refine cv_X8_isFlue hX ml_X8_96 dX8_about_7 (m_X8_isFlue _ G S _ true h18 (hasB_t hi0 (by omega))) (Nat.le_of_ble_eq_true rfl) ?_
  first | with_reducible refine aw_ifeqB hX (tgt := 23) dX8_about_10 (by decide) (fun c_10 => ?_) (fun c_10 => ?_) | refine aw_ifeq hX (tgt := 23) dX8_about_10 (by decide) (fun c_10 => ?_) (fun c_10 => ?_)
  · cases c_10
  · skip
    refine aw_iload_2 hX dX8_about_13 ?_
    refine aw_iconst hX (v := nI 0) (by decide) dX8_about_14 ?_
    refine aw_bipush hX (v := nI 7) (by decide) dX8_about_15 ?_
    refine cs_X8_in hX ml_X8_60 dX8_about_17 (m_X8_in_b _ G S _ _ _ true (by decide)) (Nat.le_of_ble_eq_true rfl) ?_
    first | with_reducible refine aw_ifneB hX (tgt := 25) dX8_about_20 (by decide) (fun c_20 => ?_) (fun c_20 => ?_) | refine aw_ifne hX (tgt := 25) dX8_about_20 (by decide) (fun c_20 => ?_) (fun c_20 => ?_)
    · skip
      refine aw_iload_2 hX dX8_about_25 ?_
      refine aw_tabOut hX (tgt := 104) dX8_about_26 (by decide) (by decide) ?_
      refine aw_aload_0 hX dX8_about_104 ?_
      refine aw_iload_1 hX dX8_about_105 ?_
      refine aw_iload_2 hX dX8_about_106 ?_
      refine cv_X8_of hX ml_X8_99 dX8_about_107 (m_X8_of _ G S i 1 hi (by decide)) (Nat.le_of_ble_eq_true rfl) ?_
      refine aw_finI (hR _ _ dX8_about_110) ?_ ?_
      · rfl
      · rfl
    · cases c_20
set_option maxHeartbeats 4000000 in
set_option maxRecDepth 100000 in
theorem m_X8_about_2 (d : Nat) (G : GT) (S : St) (h13 : S.1 13 = 0) (i : Nat) (hi0 : i < S.1 18) (h18 : S.1 18 ≤ 12)  : rX8_about G (d + 3) [.ref (gad G 8), .int (nI i), .int (nI 2)] S (some (.int (ofM S i 2))) S := by
  have hi : i < 12 := by omega
  refine runs_I (d := (d + 2)) (by decide) (Nat.le_of_ble_eq_true rfl) (fun X (hX : XC X G (d + 2) RX8 cX8_about 3) hR => ?_)
  show AW X G 0 [.ref (gad G 8), .int (nI i), .int (nI 2)] [] S
  refine aw_aload_0 hX dX8_about_0 ?_
  refine aw_iconst hX (v := nI 0) (by decide) dX8_about_1 ?_
  refine ap_X8_thrown hX fl_X8_57 dX8_about_2 ?_
  refine aw_S (sN_self h13) ?_
  refine aw_aload_0 hX dX8_about_5 ?_
  refine aw_iload_1 hX dX8_about_6 ?_
  refine cv_X8_isFlue hX ml_X8_96 dX8_about_7 (m_X8_isFlue _ G S _ true h18 (hasB_t hi0 (by omega))) (Nat.le_of_ble_eq_true rfl) ?_
  first | with_reducible refine aw_ifeqB hX (tgt := 23) dX8_about_10 (by decide) (fun c_10 => ?_) (fun c_10 => ?_) | refine aw_ifeq hX (tgt := 23) dX8_about_10 (by decide) (fun c_10 => ?_) (fun c_10 => ?_)
  · cases c_10
  · skip
    refine aw_iload_2 hX dX8_about_13 ?_
    refine aw_iconst hX (v := nI 0) (by decide) dX8_about_14 ?_
    refine aw_bipush hX (v := nI 7) (by decide) dX8_about_15 ?_
    refine cs_X8_in hX ml_X8_60 dX8_about_17 (m_X8_in_b _ G S _ _ _ true (by decide)) (Nat.le_of_ble_eq_true rfl) ?_
    first | with_reducible refine aw_ifneB hX (tgt := 25) dX8_about_20 (by decide) (fun c_20 => ?_) (fun c_20 => ?_) | refine aw_ifne hX (tgt := 25) dX8_about_20 (by decide) (fun c_20 => ?_) (fun c_20 => ?_)
    · skip
      refine aw_iload_2 hX dX8_about_25 ?_
      refine aw_tabOut hX (tgt := 104) dX8_about_26 (by decide) (by decide) ?_
      refine aw_aload_0 hX dX8_about_104 ?_
      refine aw_iload_1 hX dX8_about_105 ?_
      refine aw_iload_2 hX dX8_about_106 ?_
      refine cv_X8_of hX ml_X8_99 dX8_about_107 (m_X8_of _ G S i 2 hi (by decide)) (Nat.le_of_ble_eq_true rfl) ?_
      refine aw_finI (hR _ _ dX8_about_110) ?_ ?_
      · rfl
      · rfl
    · cases c_20
set_option maxHeartbeats 4000000 in
set_option maxRecDepth 100000 in
theorem m_X8_about_3 (d : Nat) (G : GT) (S : St) (h13 : S.1 13 = 0) (i : Nat) (hi0 : i < S.1 18) (h18 : S.1 18 ≤ 12)  : rX8_about G (d + 3) [.ref (gad G 8), .int (nI i), .int (nI 3)] S (some (.int (ofM S i 7))) S := by
  have hi : i < 12 := by omega
  refine runs_I (d := (d + 2)) (by decide) (Nat.le_of_ble_eq_true rfl) (fun X (hX : XC X G (d + 2) RX8 cX8_about 3) hR => ?_)
  show AW X G 0 [.ref (gad G 8), .int (nI i), .int (nI 3)] [] S
  refine aw_aload_0 hX dX8_about_0 ?_
  refine aw_iconst hX (v := nI 0) (by decide) dX8_about_1 ?_
  refine ap_X8_thrown hX fl_X8_57 dX8_about_2 ?_
  refine aw_S (sN_self h13) ?_
  refine aw_aload_0 hX dX8_about_5 ?_
  refine aw_iload_1 hX dX8_about_6 ?_
  refine cv_X8_isFlue hX ml_X8_96 dX8_about_7 (m_X8_isFlue _ G S _ true h18 (hasB_t hi0 (by omega))) (Nat.le_of_ble_eq_true rfl) ?_
  first | with_reducible refine aw_ifeqB hX (tgt := 23) dX8_about_10 (by decide) (fun c_10 => ?_) (fun c_10 => ?_) | refine aw_ifeq hX (tgt := 23) dX8_about_10 (by decide) (fun c_10 => ?_) (fun c_10 => ?_)
  · cases c_10
  · skip
    refine aw_iload_2 hX dX8_about_13 ?_
    refine aw_iconst hX (v := nI 0) (by decide) dX8_about_14 ?_
    refine aw_bipush hX (v := nI 7) (by decide) dX8_about_15 ?_
    refine cs_X8_in hX ml_X8_60 dX8_about_17 (m_X8_in_b _ G S _ _ _ true (by decide)) (Nat.le_of_ble_eq_true rfl) ?_
    first | with_reducible refine aw_ifneB hX (tgt := 25) dX8_about_20 (by decide) (fun c_20 => ?_) (fun c_20 => ?_) | refine aw_ifne hX (tgt := 25) dX8_about_20 (by decide) (fun c_20 => ?_) (fun c_20 => ?_)
    · skip
      refine aw_iload_2 hX dX8_about_25 ?_
      refine aw_tabIn hX (x := nI 3) (off := 34) (tgt := 60) dX8_about_26 (by decide) (by decide) (by decide) (by decide) ?_
      refine aw_aload_0 hX dX8_about_60 ?_
      refine aw_iload_1 hX dX8_about_61 ?_
      refine aw_bipush hX (v := nI 7) (by decide) dX8_about_62 ?_
      refine cv_X8_of hX ml_X8_99 dX8_about_64 (m_X8_of _ G S i 7 hi (by decide)) (Nat.le_of_ble_eq_true rfl) ?_
      refine aw_finI (hR _ _ dX8_about_67) ?_ ?_
      · rfl
      · rfl
    · cases c_20
set_option maxHeartbeats 4000000 in
set_option maxRecDepth 100000 in
theorem m_X8_about_4 (d : Nat) (G : GT) (S : St) (h13 : S.1 13 = 0) (i : Nat) (hi0 : i < S.1 18) (h18 : S.1 18 ≤ 12)  : rX8_about G (d + 3) [.ref (gad G 8), .int (nI i), .int (nI 4)] S (some (.int (ofM S i 9))) S := by
  have hi : i < 12 := by omega
  refine runs_I (d := (d + 2)) (by decide) (Nat.le_of_ble_eq_true rfl) (fun X (hX : XC X G (d + 2) RX8 cX8_about 3) hR => ?_)
  show AW X G 0 [.ref (gad G 8), .int (nI i), .int (nI 4)] [] S
  refine aw_aload_0 hX dX8_about_0 ?_
  refine aw_iconst hX (v := nI 0) (by decide) dX8_about_1 ?_
  refine ap_X8_thrown hX fl_X8_57 dX8_about_2 ?_
  refine aw_S (sN_self h13) ?_
  refine aw_aload_0 hX dX8_about_5 ?_
  refine aw_iload_1 hX dX8_about_6 ?_
  refine cv_X8_isFlue hX ml_X8_96 dX8_about_7 (m_X8_isFlue _ G S _ true h18 (hasB_t hi0 (by omega))) (Nat.le_of_ble_eq_true rfl) ?_
  first | with_reducible refine aw_ifeqB hX (tgt := 23) dX8_about_10 (by decide) (fun c_10 => ?_) (fun c_10 => ?_) | refine aw_ifeq hX (tgt := 23) dX8_about_10 (by decide) (fun c_10 => ?_) (fun c_10 => ?_)
  · cases c_10
  · skip
    refine aw_iload_2 hX dX8_about_13 ?_
    refine aw_iconst hX (v := nI 0) (by decide) dX8_about_14 ?_
    refine aw_bipush hX (v := nI 7) (by decide) dX8_about_15 ?_
    refine cs_X8_in hX ml_X8_60 dX8_about_17 (m_X8_in_b _ G S _ _ _ true (by decide)) (Nat.le_of_ble_eq_true rfl) ?_
    first | with_reducible refine aw_ifneB hX (tgt := 25) dX8_about_20 (by decide) (fun c_20 => ?_) (fun c_20 => ?_) | refine aw_ifne hX (tgt := 25) dX8_about_20 (by decide) (fun c_20 => ?_) (fun c_20 => ?_)
    · skip
      refine aw_iload_2 hX dX8_about_25 ?_
      refine aw_tabIn hX (x := nI 4) (off := 42) (tgt := 68) dX8_about_26 (by decide) (by decide) (by decide) (by decide) ?_
      refine aw_aload_0 hX dX8_about_68 ?_
      refine aw_iload_1 hX dX8_about_69 ?_
      refine aw_bipush hX (v := nI 9) (by decide) dX8_about_70 ?_
      refine cv_X8_of hX ml_X8_99 dX8_about_72 (m_X8_of _ G S i 9 hi (by decide)) (Nat.le_of_ble_eq_true rfl) ?_
      refine aw_finI (hR _ _ dX8_about_75) ?_ ?_
      · rfl
      · rfl
    · cases c_20
set_option maxHeartbeats 4000000 in
set_option maxRecDepth 100000 in
theorem m_X8_about_5 (d : Nat) (G : GT) (S : St) (h13 : S.1 13 = 0) (i : Nat) (hi0 : i < S.1 18) (h18 : S.1 18 ≤ 12)  : rX8_about G (d + 3) [.ref (gad G 8), .int (nI i), .int (nI 5)] S (some (.int (ofM S i 10))) S := by
  have hi : i < 12 := by omega
  refine runs_I (d := (d + 2)) (by decide) (Nat.le_of_ble_eq_true rfl) (fun X (hX : XC X G (d + 2) RX8 cX8_about 3) hR => ?_)
  show AW X G 0 [.ref (gad G 8), .int (nI i), .int (nI 5)] [] S
  refine aw_aload_0 hX dX8_about_0 ?_
  refine aw_iconst hX (v := nI 0) (by decide) dX8_about_1 ?_
  refine ap_X8_thrown hX fl_X8_57 dX8_about_2 ?_
  refine aw_S (sN_self h13) ?_
  refine aw_aload_0 hX dX8_about_5 ?_
  refine aw_iload_1 hX dX8_about_6 ?_
  refine cv_X8_isFlue hX ml_X8_96 dX8_about_7 (m_X8_isFlue _ G S _ true h18 (hasB_t hi0 (by omega))) (Nat.le_of_ble_eq_true rfl) ?_
  first | with_reducible refine aw_ifeqB hX (tgt := 23) dX8_about_10 (by decide) (fun c_10 => ?_) (fun c_10 => ?_) | refine aw_ifeq hX (tgt := 23) dX8_about_10 (by decide) (fun c_10 => ?_) (fun c_10 => ?_)
  · cases c_10
  · skip
    refine aw_iload_2 hX dX8_about_13 ?_
    refine aw_iconst hX (v := nI 0) (by decide) dX8_about_14 ?_
    refine aw_bipush hX (v := nI 7) (by decide) dX8_about_15 ?_
    refine cs_X8_in hX ml_X8_60 dX8_about_17 (m_X8_in_b _ G S _ _ _ true (by decide)) (Nat.le_of_ble_eq_true rfl) ?_
    first | with_reducible refine aw_ifneB hX (tgt := 25) dX8_about_20 (by decide) (fun c_20 => ?_) (fun c_20 => ?_) | refine aw_ifne hX (tgt := 25) dX8_about_20 (by decide) (fun c_20 => ?_) (fun c_20 => ?_)
    · skip
      refine aw_iload_2 hX dX8_about_25 ?_
      refine aw_tabIn hX (x := nI 5) (off := 50) (tgt := 76) dX8_about_26 (by decide) (by decide) (by decide) (by decide) ?_
      refine aw_aload_0 hX dX8_about_76 ?_
      refine aw_iload_1 hX dX8_about_77 ?_
      refine aw_bipush hX (v := nI 10) (by decide) dX8_about_78 ?_
      refine cv_X8_of hX ml_X8_99 dX8_about_80 (m_X8_of _ G S i 10 hi (by decide)) (Nat.le_of_ble_eq_true rfl) ?_
      refine aw_finI (hR _ _ dX8_about_83) ?_ ?_
      · rfl
      · rfl
    · cases c_20
set_option maxHeartbeats 4000000 in
set_option maxRecDepth 100000 in
theorem m_X8_about_6 (d : Nat) (G : GT) (S : St) (h13 : S.1 13 = 0) (i : Nat) (hi0 : i < S.1 18) (h18 : S.1 18 ≤ 12) (h19 : S.1 19 ≤ 30) : rX8_about G (d + 3) [.ref (gad G 8), .int (nI i), .int (nI 6)] S (some (.int (bI (foM S i)))) S := by
  have hi : i < 12 := by omega
  refine runs_I (d := (d + 2)) (by decide) (Nat.le_of_ble_eq_true rfl) (fun X (hX : XC X G (d + 2) RX8 cX8_about 3) hR => ?_)
  show AW X G 0 [.ref (gad G 8), .int (nI i), .int (nI 6)] [] S
  refine aw_aload_0 hX dX8_about_0 ?_
  refine aw_iconst hX (v := nI 0) (by decide) dX8_about_1 ?_
  refine ap_X8_thrown hX fl_X8_57 dX8_about_2 ?_
  refine aw_S (sN_self h13) ?_
  refine aw_aload_0 hX dX8_about_5 ?_
  refine aw_iload_1 hX dX8_about_6 ?_
  refine cv_X8_isFlue hX ml_X8_96 dX8_about_7 (m_X8_isFlue _ G S _ true h18 (hasB_t hi0 (by omega))) (Nat.le_of_ble_eq_true rfl) ?_
  first | with_reducible refine aw_ifeqB hX (tgt := 23) dX8_about_10 (by decide) (fun c_10 => ?_) (fun c_10 => ?_) | refine aw_ifeq hX (tgt := 23) dX8_about_10 (by decide) (fun c_10 => ?_) (fun c_10 => ?_)
  · cases c_10
  · skip
    refine aw_iload_2 hX dX8_about_13 ?_
    refine aw_iconst hX (v := nI 0) (by decide) dX8_about_14 ?_
    refine aw_bipush hX (v := nI 7) (by decide) dX8_about_15 ?_
    refine cs_X8_in hX ml_X8_60 dX8_about_17 (m_X8_in_b _ G S _ _ _ true (by decide)) (Nat.le_of_ble_eq_true rfl) ?_
    first | with_reducible refine aw_ifneB hX (tgt := 25) dX8_about_20 (by decide) (fun c_20 => ?_) (fun c_20 => ?_) | refine aw_ifne hX (tgt := 25) dX8_about_20 (by decide) (fun c_20 => ?_) (fun c_20 => ?_)
    · skip
      refine aw_iload_2 hX dX8_about_25 ?_
      refine aw_tabIn hX (x := nI 6) (off := 58) (tgt := 84) dX8_about_26 (by decide) (by decide) (by decide) (by decide) ?_
      refine aw_aload_0 hX dX8_about_84 ?_
      refine aw_iload_1 hX dX8_about_85 ?_
      refine cv_X8_isForbidden hX ml_X8_116 dX8_about_86 (m_X8_isForbidden _ G S i hi h19) (Nat.le_of_ble_eq_true rfl) ?_
      first | with_reducible refine aw_ifeqB hX (tgt := 96) dX8_about_89 (by decide) (fun c_89 => ?_) (fun c_89 => ?_) | refine aw_ifeq hX (tgt := 96) dX8_about_89 (by decide) (fun c_89 => ?_) (fun c_89 => ?_)
      · skip
        refine aw_iconst hX (v := nI 0) (by decide) dX8_about_96 ?_
        refine aw_finI (hR _ _ dX8_about_97) ?_ ?_
        · first | exact bF c_89 | exact bT c_89
        · rfl
      · skip
        refine aw_iconst hX (v := nI 1) (by decide) dX8_about_92 ?_
        refine aw_goto hX (tgt := 97) dX8_about_93 (by decide) ?_
        refine aw_finI (hR _ _ dX8_about_97) ?_ ?_
        · first | exact bF c_89 | exact bT c_89
        · rfl
    · cases c_20
set_option maxHeartbeats 4000000 in
set_option maxRecDepth 100000 in
theorem m_X8_about_7 (d : Nat) (G : GT) (S : St) (h13 : S.1 13 = 0) (i : Nat) (hi0 : i < S.1 18) (h18 : S.1 18 ≤ 12) (hh : ofM S i 7 = nI (tn (ofM S i 7)) ∧ tn (ofM S i 7) < 4)  : rX8_about G (d + 3) [.ref (gad G 8), .int (nI i), .int (nI 7)] S (some (.int (doM S i))) S := by
  have hi : i < 12 := by omega
  refine runs_I (d := (d + 2)) (by decide) (Nat.le_of_ble_eq_true rfl) (fun X (hX : XC X G (d + 2) RX8 cX8_about 3) hR => ?_)
  show AW X G 0 [.ref (gad G 8), .int (nI i), .int (nI 7)] [] S
  refine aw_aload_0 hX dX8_about_0 ?_
  refine aw_iconst hX (v := nI 0) (by decide) dX8_about_1 ?_
  refine ap_X8_thrown hX fl_X8_57 dX8_about_2 ?_
  refine aw_S (sN_self h13) ?_
  refine aw_aload_0 hX dX8_about_5 ?_
  refine aw_iload_1 hX dX8_about_6 ?_
  refine cv_X8_isFlue hX ml_X8_96 dX8_about_7 (m_X8_isFlue _ G S _ true h18 (hasB_t hi0 (by omega))) (Nat.le_of_ble_eq_true rfl) ?_
  first | with_reducible refine aw_ifeqB hX (tgt := 23) dX8_about_10 (by decide) (fun c_10 => ?_) (fun c_10 => ?_) | refine aw_ifeq hX (tgt := 23) dX8_about_10 (by decide) (fun c_10 => ?_) (fun c_10 => ?_)
  · cases c_10
  · skip
    refine aw_iload_2 hX dX8_about_13 ?_
    refine aw_iconst hX (v := nI 0) (by decide) dX8_about_14 ?_
    refine aw_bipush hX (v := nI 7) (by decide) dX8_about_15 ?_
    refine cs_X8_in hX ml_X8_60 dX8_about_17 (m_X8_in_b _ G S _ _ _ true (by decide)) (Nat.le_of_ble_eq_true rfl) ?_
    first | with_reducible refine aw_ifneB hX (tgt := 25) dX8_about_20 (by decide) (fun c_20 => ?_) (fun c_20 => ?_) | refine aw_ifne hX (tgt := 25) dX8_about_20 (by decide) (fun c_20 => ?_) (fun c_20 => ?_)
    · skip
      refine aw_iload_2 hX dX8_about_25 ?_
      refine aw_tabIn hX (x := nI 7) (off := 72) (tgt := 98) dX8_about_26 (by decide) (by decide) (by decide) (by decide) ?_
      refine aw_aload_0 hX dX8_about_98 ?_
      refine aw_iload_1 hX dX8_about_99 ?_
      refine cv_X8_doer hX ml_X8_119 dX8_about_100 (m_X8_doer _ G S i hi h18 hh) (Nat.le_of_ble_eq_true rfl) ?_
      refine aw_finI (hR _ _ dX8_about_103) ?_ ?_
      · rfl
      · rfl
    · cases c_20
set_option maxHeartbeats 4000000 in
set_option maxRecDepth 100000 in
theorem m_X8_due_bad (d : Nat) (G : GT) (S : St) (h13 : S.1 13 = 0) (f : Int32) (h18 : S.1 18 ≤ 12) (h : hasB f (S.1 18) = false) : rX8_due G (d + 3) [.ref (gad G 8), .int f] S (some (.int (-1))) S := by
  refine runs_I (d := (d + 2)) (by decide) (Nat.le_of_ble_eq_true rfl) (fun X (hX : XC X G (d + 2) RX8 cX8_due 2) hR => ?_)
  show AW X G 0 [.ref (gad G 8), .int f] [] S
  refine aw_aload_0 hX dX8_due_0 ?_
  refine aw_iconst hX (v := nI 0) (by decide) dX8_due_1 ?_
  refine ap_X8_thrown hX fl_X8_57 dX8_due_2 ?_
  refine aw_S (sN_self h13) ?_
  refine aw_aload_0 hX dX8_due_5 ?_
  refine aw_iload_1 hX dX8_due_6 ?_
  refine cv_X8_isFlue hX ml_X8_96 dX8_due_7 (m_X8_isFlue _ G S _ false h18 h) (Nat.le_of_ble_eq_true rfl) ?_
  first | with_reducible refine aw_ifeqB hX (tgt := 28) dX8_due_10 (by decide) (fun c_10 => ?_) (fun c_10 => ?_) | refine aw_ifeq hX (tgt := 28) dX8_due_10 (by decide) (fun c_10 => ?_) (fun c_10 => ?_)
  · skip
    refine aw_iconst hX (v := (-1)) (by decide) dX8_due_28 ?_
    refine aw_finI (hR _ _ dX8_due_29) ?_ ?_
    · rfl
    · rfl
  · cases c_10
set_option maxHeartbeats 4000000 in
set_option maxRecDepth 100000 in
theorem m_X8_due_ok (d : Nat) (G : GT) (S : St) (h13 : S.1 13 = 0) (i : Nat) (hi0 : i < S.1 18) (h18 : S.1 18 ≤ 12) (w : Nat) (hw : ofM S i 9 = nI w) (hw5 : w ≤ 500) (hb : BmOK S) (hsp : ∀ f dy, spM S f dy ≤ nI 200) : rX8_due G (d + 3) [.ref (gad G 8), .int (nI i)] S (some (.int (nI (duM S (ofM S i 1) w)))) S := by
  have hi : i < 12 := by omega
  refine runs_I (d := (d + 2)) (by decide) (Nat.le_of_ble_eq_true rfl) (fun X (hX : XC X G (d + 2) RX8 cX8_due 2) hR => ?_)
  show AW X G 0 [.ref (gad G 8), .int (nI i)] [] S
  refine aw_aload_0 hX dX8_due_0 ?_
  refine aw_iconst hX (v := nI 0) (by decide) dX8_due_1 ?_
  refine ap_X8_thrown hX fl_X8_57 dX8_due_2 ?_
  refine aw_S (sN_self h13) ?_
  refine aw_aload_0 hX dX8_due_5 ?_
  refine aw_iload_1 hX dX8_due_6 ?_
  refine cv_X8_isFlue hX ml_X8_96 dX8_due_7 (m_X8_isFlue _ G S _ true h18 (hasB_t hi0 (by omega))) (Nat.le_of_ble_eq_true rfl) ?_
  first | with_reducible refine aw_ifeqB hX (tgt := 28) dX8_due_10 (by decide) (fun c_10 => ?_) (fun c_10 => ?_) | refine aw_ifeq hX (tgt := 28) dX8_due_10 (by decide) (fun c_10 => ?_) (fun c_10 => ?_)
  · cases c_10
  · skip
    refine aw_aload_0 hX dX8_due_13 ?_
    refine aw_iload_1 hX dX8_due_14 ?_
    refine aw_aload_0 hX dX8_due_15 ?_
    refine aw_iload_1 hX dX8_due_16 ?_
    refine aw_bipush hX (v := nI 9) (by decide) dX8_due_17 ?_
    refine cv_X8_of hX ml_X8_99 dX8_due_19 (m_X8_of _ G S i 9 hi (by decide)) (Nat.le_of_ble_eq_true rfl) ?_
    refine aw_ti hw ?_
    refine cv_X8_dueBy hX ml_X8_123 dX8_due_22 (m_X8_dueBy _ G S i w hi hw5 hb hsp) (Nat.le_of_ble_eq_true rfl) ?_
    refine aw_goto hX (tgt := 29) dX8_due_25 (by decide) ?_
    refine aw_finI (hR _ _ dX8_due_29) ?_ ?_
    · rfl
    · rfl
def beM (S : St) : Nat → Nat
  | 0 => 0
  | n + 1 => if foM S n = false ∧ ¬ nI (S.1 14) ≤ nI (duM S (ofM S n 1) (tn (ofM S n 9))) then beM S n + 1 else beM S n
def Of9 (S : St) : Prop := ∀ i, i < S.1 18 → ofM S i 9 = nI (tn (ofM S i 9)) ∧ tn (ofM S i 9) ≤ 500
set_option maxHeartbeats 4000000 in
set_option maxRecDepth 100000 in
theorem m_X8_beyond (d : Nat) (G : GT) (S : St) (h13 : S.1 13 = 0) (h18 : S.1 18 ≤ 12) (h19 : S.1 19 ≤ 30) (hb : BmOK S) (hsp : ∀ f dy, spM S f dy ≤ nI 200) (hw : Of9 S) : rX8_beyond G (d + 3) [.ref (gad G 8)] S (some (.int (nI (beM S (S.1 18))))) S := by
  refine runs_I (d := (d + 2)) (by decide) (Nat.le_of_ble_eq_true rfl) (fun X (hX : XC X G (d + 2) RX8 cX8_beyond 3) hR => ?_)
  show AW X G 0 [.ref (gad G 8), .null, .null] [] S
  have loop : ∀ n i : Nat, i + n = S.1 18 → ∀ v : Nat, v = beM S i → AW X G 9 [.ref (gad G 8), .int (nI v), .int (nI i)] [] S := by
    intro n
    induction n with
    | zero =>
      intro i hi v hp
      refine aw_iload_2 hX dX8_beyond_9 ?_
      refine aw_aload_0 hX dX8_beyond_10 ?_
      refine ag_X8_flues hX fl_X8_93 dX8_beyond_11 ?_
      first | with_reducible refine aw_icmpgeN hX (tgt := 58) dX8_beyond_14 (by decide) (by omega) (by omega) (fun c_14 => ?_) (fun c_14 => ?_) | refine aw_jge hX (tgt := 58) dX8_beyond_14 (by decide) (fun c_14 => ?_) (fun c_14 => ?_)
      · skip
        refine aw_iload_1 hX dX8_beyond_58 ?_
        refine aw_finI (hR _ _ dX8_beyond_59) ?_ ?_
        · rw [show S.1 18 = i by omega, ← hp]
        · rfl
      · exact absurd c_14 (by omega)
    | succ n ih =>
      intro i hi v hp
      refine aw_iload_2 hX dX8_beyond_9 ?_
      refine aw_aload_0 hX dX8_beyond_10 ?_
      refine ag_X8_flues hX fl_X8_93 dX8_beyond_11 ?_
      first | with_reducible refine aw_icmpgeN hX (tgt := 58) dX8_beyond_14 (by decide) (by omega) (by omega) (fun c_14 => ?_) (fun c_14 => ?_) | refine aw_jge hX (tgt := 58) dX8_beyond_14 (by decide) (fun c_14 => ?_) (fun c_14 => ?_)
      · exact absurd c_14 (by omega)
      · skip
        refine aw_iload_1 hX dX8_beyond_17 ?_
        refine aw_aload_0 hX dX8_beyond_18 ?_
        refine aw_iload_2 hX dX8_beyond_19 ?_
        refine cv_X8_isForbidden hX ml_X8_116 dX8_beyond_20 (m_X8_isForbidden _ G S i (by omega) h19) (Nat.le_of_ble_eq_true rfl) ?_
        first | with_reducible refine aw_ifneB hX (tgt := 49) dX8_beyond_23 (by decide) (fun c_23 => ?_) (fun c_23 => ?_) | refine aw_ifne hX (tgt := 49) dX8_beyond_23 (by decide) (fun c_23 => ?_) (fun c_23 => ?_)
        · skip
          refine aw_iconst hX (v := nI 0) (by decide) dX8_beyond_49 ?_
          first | with_reducible refine aw_iaddN hX dX8_beyond_50 ?_ | refine aw_iadd hX dX8_beyond_50 ?_
          refine aw_istore_1 hX rfl (by decide) dX8_beyond_51 ?_
          first | with_reducible refine aw_iinc_2N hX rfl (by decide) dX8_beyond_52 ?_ | refine aw_iinc_2 hX rfl (by decide) dX8_beyond_52 ?_
          refine aw_goto hX (tgt := 9) dX8_beyond_55 (by decide) ?_
          exact ih (i + 1) (by omega) _ (by simp only [beM, ← hp]; simp [c_14, c_23])
        · skip
          refine aw_aload_0 hX dX8_beyond_26 ?_
          refine aw_iload_2 hX dX8_beyond_27 ?_
          refine aw_aload_0 hX dX8_beyond_28 ?_
          refine aw_iload_2 hX dX8_beyond_29 ?_
          refine aw_bipush hX (v := nI 9) (by decide) dX8_beyond_30 ?_
          refine cv_X8_of hX ml_X8_99 dX8_beyond_32 (m_X8_of _ G S i 9 (by omega) (by decide)) (Nat.le_of_ble_eq_true rfl) ?_
          refine aw_ti (hw i (by omega)).1 ?_
          refine cv_X8_dueBy hX ml_X8_123 dX8_beyond_35 (m_X8_dueBy _ G S i _ (by omega) (hw i (by omega)).2 hb hsp) (Nat.le_of_ble_eq_true rfl) ?_
          refine aw_aload_0 hX dX8_beyond_38 ?_
          refine ag_X8_today hX fl_X8_86 dX8_beyond_39 ?_
          refine aw_jge hX (tgt := 49) dX8_beyond_42 (by decide) (fun c_42 => ?_) (fun c_42 => ?_)
          · skip
            refine aw_iconst hX (v := nI 0) (by decide) dX8_beyond_49 ?_
            first | with_reducible refine aw_iaddN hX dX8_beyond_50 ?_ | refine aw_iadd hX dX8_beyond_50 ?_
            refine aw_istore_1 hX rfl (by decide) dX8_beyond_51 ?_
            first | with_reducible refine aw_iinc_2N hX rfl (by decide) dX8_beyond_52 ?_ | refine aw_iinc_2 hX rfl (by decide) dX8_beyond_52 ?_
            refine aw_goto hX (tgt := 9) dX8_beyond_55 (by decide) ?_
            exact ih (i + 1) (by omega) _ (by simp only [beM, ← hp]; simp [c_14, c_23, c_42])
          · skip
            refine aw_iconst hX (v := nI 1) (by decide) dX8_beyond_45 ?_
            refine aw_goto hX (tgt := 50) dX8_beyond_46 (by decide) ?_
            first | with_reducible refine aw_iaddN hX dX8_beyond_50 ?_ | refine aw_iadd hX dX8_beyond_50 ?_
            refine aw_istore_1 hX rfl (by decide) dX8_beyond_51 ?_
            first | with_reducible refine aw_iinc_2N hX rfl (by decide) dX8_beyond_52 ?_ | refine aw_iinc_2 hX rfl (by decide) dX8_beyond_52 ?_
            refine aw_goto hX (tgt := 9) dX8_beyond_55 (by decide) ?_
            exact ih (i + 1) (by omega) _ (by simp only [beM, ← hp]; simp [c_14, c_23, c_42])
  refine aw_aload_0 hX dX8_beyond_0 ?_
  refine aw_iconst hX (v := nI 0) (by decide) dX8_beyond_1 ?_
  refine ap_X8_thrown hX fl_X8_57 dX8_beyond_2 ?_
  refine aw_S (sN_self h13) ?_
  refine aw_iconst hX (v := nI 0) (by decide) dX8_beyond_5 ?_
  refine aw_istore_1 hX rfl (by decide) dX8_beyond_6 ?_
  refine aw_iconst hX (v := nI 0) (by decide) dX8_beyond_7 ?_
  refine aw_istore_2 hX rfl (by decide) dX8_beyond_8 ?_
  exact loop (S.1 18) 0 (by omega) _ rfl
set_option maxHeartbeats 4000000 in
set_option maxRecDepth 100000 in
theorem m_X8_sweep_bad (d : Nat) (G : GT) (S : St) (h13 : S.1 13 = 0) (f : Int32) (h18 : S.1 18 ≤ 12) (h : hasB f (S.1 18) = false) : rX8_sweep G (d + 3) [.ref (gad G 8), .int f] S (some (.int (-1))) S := by
  refine runs_I (d := (d + 2)) (by decide) (Nat.le_of_ble_eq_true rfl) (fun X (hX : XC X G (d + 2) RX8 cX8_sweep 4) hR => ?_)
  show AW X G 0 [.ref (gad G 8), .int f, .null, .null] [] S
  refine aw_aload_0 hX dX8_sweep_0 ?_
  refine aw_iconst hX (v := nI 0) (by decide) dX8_sweep_1 ?_
  refine ap_X8_thrown hX fl_X8_57 dX8_sweep_2 ?_
  refine aw_S (sN_self h13) ?_
  refine aw_aload_0 hX dX8_sweep_5 ?_
  refine aw_iload_1 hX dX8_sweep_6 ?_
  refine cv_X8_isFlue hX ml_X8_96 dX8_sweep_7 (m_X8_isFlue _ G S _ false h18 h) (Nat.le_of_ble_eq_true rfl) ?_
  first | with_reducible refine aw_ifneB hX (tgt := 15) dX8_sweep_10 (by decide) (fun c_10 => ?_) (fun c_10 => ?_) | refine aw_ifne hX (tgt := 15) dX8_sweep_10 (by decide) (fun c_10 => ?_) (fun c_10 => ?_)
  · cases c_10
  · skip
    refine aw_iconst hX (v := (-1)) (by decide) dX8_sweep_13 ?_
    refine aw_finI (hR _ _ dX8_sweep_14) ?_ ?_
    · rfl
    · rfl
set_option maxHeartbeats 4000000 in
set_option maxRecDepth 100000 in
theorem m_X8_sweep_state (d : Nat) (G : GT) (S : St) (h13 : S.1 13 = 0) (i : Nat) (hi0 : i < S.1 18) (h18 : S.1 18 ≤ 12) (h19 : S.1 19 ≤ 30) (hh : ofM S i 7 = nI (tn (ofM S i 7)) ∧ tn (ofM S i 7) < 4) (h : foM S i = true ∨ doM S i = -9) : rX8_sweep G (d + 3) [.ref (gad G 8), .int (nI i)] S (some (.int (-2))) S := by
  have hi : i < 12 := by omega
  refine runs_I (d := (d + 2)) (by decide) (Nat.le_of_ble_eq_true rfl) (fun X (hX : XC X G (d + 2) RX8 cX8_sweep 4) hR => ?_)
  show AW X G 0 [.ref (gad G 8), .int (nI i), .null, .null] [] S
  refine aw_aload_0 hX dX8_sweep_0 ?_
  refine aw_iconst hX (v := nI 0) (by decide) dX8_sweep_1 ?_
  refine ap_X8_thrown hX fl_X8_57 dX8_sweep_2 ?_
  refine aw_S (sN_self h13) ?_
  refine aw_aload_0 hX dX8_sweep_5 ?_
  refine aw_iload_1 hX dX8_sweep_6 ?_
  refine cv_X8_isFlue hX ml_X8_96 dX8_sweep_7 (m_X8_isFlue _ G S _ true h18 (hasB_t hi0 (by omega))) (Nat.le_of_ble_eq_true rfl) ?_
  first | with_reducible refine aw_ifneB hX (tgt := 15) dX8_sweep_10 (by decide) (fun c_10 => ?_) (fun c_10 => ?_) | refine aw_ifne hX (tgt := 15) dX8_sweep_10 (by decide) (fun c_10 => ?_) (fun c_10 => ?_)
  · skip
    refine aw_aload_0 hX dX8_sweep_15 ?_
    refine aw_iload_1 hX dX8_sweep_16 ?_
    refine cv_X8_doer hX ml_X8_119 dX8_sweep_17 (m_X8_doer _ G S i hi h18 hh) (Nat.le_of_ble_eq_true rfl) ?_
    refine aw_istore_2 hX rfl (by decide) dX8_sweep_20 ?_
    refine aw_aload_0 hX dX8_sweep_21 ?_
    refine aw_iload_1 hX dX8_sweep_22 ?_
    refine cv_X8_isForbidden hX ml_X8_116 dX8_sweep_23 (m_X8_isForbidden _ G S i hi h19) (Nat.le_of_ble_eq_true rfl) ?_
    first | with_reducible refine aw_ifneB hX (tgt := 35) dX8_sweep_26 (by decide) (fun c_26 => ?_) (fun c_26 => ?_) | refine aw_ifne hX (tgt := 35) dX8_sweep_26 (by decide) (fun c_26 => ?_) (fun c_26 => ?_)
    · skip
      refine aw_bipush hX (v := (-2)) (by decide) dX8_sweep_35 ?_
      refine aw_finI (hR _ _ dX8_sweep_37) ?_ ?_
      · rfl
      · rfl
    · skip
      refine aw_iload_2 hX dX8_sweep_29 ?_
      refine aw_bipush hX (v := (-9)) (by decide) dX8_sweep_30 ?_
      first | with_reducible refine aw_icmpneN hX (tgt := 38) dX8_sweep_32 (by decide) (by omega) (by omega) (fun c_32 => ?_) (fun c_32 => ?_) | refine aw_icmpne hX (tgt := 38) dX8_sweep_32 (by decide) (fun c_32 => ?_) (fun c_32 => ?_)
      · exact absurd h (by simp [c_10, c_26, c_32])
      · skip
        refine aw_bipush hX (v := (-2)) (by decide) dX8_sweep_35 ?_
        refine aw_finI (hR _ _ dX8_sweep_37) ?_ ?_
        · rfl
        · rfl
  · cases c_10
set_option maxHeartbeats 4000000 in
set_option maxRecDepth 100000 in
theorem m_X8_sweep_full (d : Nat) (G : GT) (S : St) (h13 : S.1 13 = 0) (i : Nat) (hi0 : i < S.1 18) (h18 : S.1 18 ≤ 12) (h19 : S.1 19 ≤ 30) (hh : ofM S i 7 = nI (tn (ofM S i 7)) ∧ tn (ofM S i 7) < 4) (hf : foM S i = false) (hd : ¬ doM S i = -9) (hl : S.1 21 = 100) : rX8_sweep G (d + 3) [.ref (gad G 8), .int (nI i)] S (some (.int (-3))) S := by
  have hi : i < 12 := by omega
  refine runs_I (d := (d + 2)) (by decide) (Nat.le_of_ble_eq_true rfl) (fun X (hX : XC X G (d + 2) RX8 cX8_sweep 4) hR => ?_)
  show AW X G 0 [.ref (gad G 8), .int (nI i), .null, .null] [] S
  refine aw_aload_0 hX dX8_sweep_0 ?_
  refine aw_iconst hX (v := nI 0) (by decide) dX8_sweep_1 ?_
  refine ap_X8_thrown hX fl_X8_57 dX8_sweep_2 ?_
  refine aw_S (sN_self h13) ?_
  refine aw_aload_0 hX dX8_sweep_5 ?_
  refine aw_iload_1 hX dX8_sweep_6 ?_
  refine cv_X8_isFlue hX ml_X8_96 dX8_sweep_7 (m_X8_isFlue _ G S _ true h18 (hasB_t hi0 (by omega))) (Nat.le_of_ble_eq_true rfl) ?_
  first | with_reducible refine aw_ifneB hX (tgt := 15) dX8_sweep_10 (by decide) (fun c_10 => ?_) (fun c_10 => ?_) | refine aw_ifne hX (tgt := 15) dX8_sweep_10 (by decide) (fun c_10 => ?_) (fun c_10 => ?_)
  · skip
    refine aw_aload_0 hX dX8_sweep_15 ?_
    refine aw_iload_1 hX dX8_sweep_16 ?_
    refine cv_X8_doer hX ml_X8_119 dX8_sweep_17 (m_X8_doer _ G S i hi h18 hh) (Nat.le_of_ble_eq_true rfl) ?_
    refine aw_istore_2 hX rfl (by decide) dX8_sweep_20 ?_
    refine aw_aload_0 hX dX8_sweep_21 ?_
    refine aw_iload_1 hX dX8_sweep_22 ?_
    refine cv_X8_isForbidden hX ml_X8_116 dX8_sweep_23 (m_X8_isForbidden _ G S i hi h19) (Nat.le_of_ble_eq_true rfl) ?_
    first | with_reducible refine aw_ifneB hX (tgt := 35) dX8_sweep_26 (by decide) (fun c_26 => ?_) (fun c_26 => ?_) | refine aw_ifne hX (tgt := 35) dX8_sweep_26 (by decide) (fun c_26 => ?_) (fun c_26 => ?_)
    · rw [hf] at c_26; cases c_26
    · skip
      refine aw_iload_2 hX dX8_sweep_29 ?_
      refine aw_bipush hX (v := (-9)) (by decide) dX8_sweep_30 ?_
      first | with_reducible refine aw_icmpneN hX (tgt := 38) dX8_sweep_32 (by decide) (by omega) (by omega) (fun c_32 => ?_) (fun c_32 => ?_) | refine aw_icmpne hX (tgt := 38) dX8_sweep_32 (by decide) (fun c_32 => ?_) (fun c_32 => ?_)
      · skip
        refine aw_aload_0 hX dX8_sweep_38 ?_
        refine ag_X8_sweeps hX fl_X8_126 dX8_sweep_39 ?_
        refine aw_bipush hX (v := nI 100) (by decide) dX8_sweep_42 ?_
        first | with_reducible refine aw_icmpneN hX (tgt := 50) dX8_sweep_44 (by decide) (by omega) (by omega) (fun c_44 => ?_) (fun c_44 => ?_) | refine aw_icmpne hX (tgt := 50) dX8_sweep_44 (by decide) (fun c_44 => ?_) (fun c_44 => ?_)
        · exact absurd hl c_44
        · skip
          refine aw_bipush hX (v := (-3)) (by decide) dX8_sweep_47 ?_
          refine aw_finI (hR _ _ dX8_sweep_49) ?_ ?_
          · rfl
          · rfl
      · exact absurd c_32 hd
  · cases c_10
set_option maxHeartbeats 4000000 in
set_option maxRecDepth 100000 in
theorem m_X8_sweep_ok (d : Nat) (G : GT) (S : St) (h13 : S.1 13 = 0) (i : Nat) (hi0 : i < S.1 18) (h18 : S.1 18 ≤ 12) (h19 : S.1 19 ≤ 30) (hh : ofM S i 7 = nI (tn (ofM S i 7)) ∧ tn (ofM S i 7) < 4) (hf : foM S i = false) (hd : ¬ doM S i = -9) (hl : S.1 21 < 100) : rX8_sweep G (d + 3) [.ref (gad G 8), .int (nI i)] S (some (.int ((ofM S i 2 * nI (S.1 22))))) (sA (sA (sN (sA (sA (sA (sA S 55 (4 * S.1 21) (nI i)) 55 (4 * S.1 21 + 1) (nI (S.1 14))) 55 (4 * S.1 21 + 2) (doM S i)) 55 (4 * S.1 21 + 3) (ofM S i 2 * nI (S.1 22))) 21 (S.1 21 + 1)) 52 (11 * i + 9) (nI (S.1 14))) 52 (11 * i + 10) (nI 0)) := by
  have hi : i < 12 := by omega
  refine runs_I (d := (d + 2)) (by decide) (Nat.le_of_ble_eq_true rfl) (fun X (hX : XC X G (d + 2) RX8 cX8_sweep 4) hR => ?_)
  show AW X G 0 [.ref (gad G 8), .int (nI i), .null, .null] [] S
  refine aw_aload_0 hX dX8_sweep_0 ?_
  refine aw_iconst hX (v := nI 0) (by decide) dX8_sweep_1 ?_
  refine ap_X8_thrown hX fl_X8_57 dX8_sweep_2 ?_
  refine aw_S (sN_self h13) ?_
  refine aw_aload_0 hX dX8_sweep_5 ?_
  refine aw_iload_1 hX dX8_sweep_6 ?_
  refine cv_X8_isFlue hX ml_X8_96 dX8_sweep_7 (m_X8_isFlue _ G S _ true h18 (hasB_t hi0 (by omega))) (Nat.le_of_ble_eq_true rfl) ?_
  first | with_reducible refine aw_ifneB hX (tgt := 15) dX8_sweep_10 (by decide) (fun c_10 => ?_) (fun c_10 => ?_) | refine aw_ifne hX (tgt := 15) dX8_sweep_10 (by decide) (fun c_10 => ?_) (fun c_10 => ?_)
  · skip
    refine aw_aload_0 hX dX8_sweep_15 ?_
    refine aw_iload_1 hX dX8_sweep_16 ?_
    refine cv_X8_doer hX ml_X8_119 dX8_sweep_17 (m_X8_doer _ G S i hi h18 hh) (Nat.le_of_ble_eq_true rfl) ?_
    refine aw_istore_2 hX rfl (by decide) dX8_sweep_20 ?_
    refine aw_aload_0 hX dX8_sweep_21 ?_
    refine aw_iload_1 hX dX8_sweep_22 ?_
    refine cv_X8_isForbidden hX ml_X8_116 dX8_sweep_23 (m_X8_isForbidden _ G S i hi h19) (Nat.le_of_ble_eq_true rfl) ?_
    first | with_reducible refine aw_ifneB hX (tgt := 35) dX8_sweep_26 (by decide) (fun c_26 => ?_) (fun c_26 => ?_) | refine aw_ifne hX (tgt := 35) dX8_sweep_26 (by decide) (fun c_26 => ?_) (fun c_26 => ?_)
    · rw [hf] at c_26; cases c_26
    · skip
      refine aw_iload_2 hX dX8_sweep_29 ?_
      refine aw_bipush hX (v := (-9)) (by decide) dX8_sweep_30 ?_
      first | with_reducible refine aw_icmpneN hX (tgt := 38) dX8_sweep_32 (by decide) (by omega) (by omega) (fun c_32 => ?_) (fun c_32 => ?_) | refine aw_icmpne hX (tgt := 38) dX8_sweep_32 (by decide) (fun c_32 => ?_) (fun c_32 => ?_)
      · skip
        refine aw_aload_0 hX dX8_sweep_38 ?_
        refine ag_X8_sweeps hX fl_X8_126 dX8_sweep_39 ?_
        refine aw_bipush hX (v := nI 100) (by decide) dX8_sweep_42 ?_
        first | with_reducible refine aw_icmpneN hX (tgt := 50) dX8_sweep_44 (by decide) (by omega) (by omega) (fun c_44 => ?_) (fun c_44 => ?_) | refine aw_icmpne hX (tgt := 50) dX8_sweep_44 (by decide) (fun c_44 => ?_) (fun c_44 => ?_)
        · skip
          refine aw_aload_0 hX dX8_sweep_50 ?_
          refine aw_iload_1 hX dX8_sweep_51 ?_
          refine aw_iconst hX (v := nI 2) (by decide) dX8_sweep_52 ?_
          refine cv_X8_of hX ml_X8_99 dX8_sweep_53 (m_X8_of _ G S i 2 hi (by decide)) (Nat.le_of_ble_eq_true rfl) ?_
          refine aw_aload_0 hX dX8_sweep_56 ?_
          refine ag_X8_rate hX fl_X8_40 dX8_sweep_57 ?_
          refine aw_imul hX dX8_sweep_60 ?_
          refine aw_istore_3 hX rfl (by decide) dX8_sweep_61 ?_
          refine aw_aload_0 hX dX8_sweep_62 ?_
          refine ag_X8_sweep hX fl_X8_37 dX8_sweep_63 ?_
          refine aw_iconst hX (v := nI 4) (by decide) dX8_sweep_66 ?_
          refine aw_aload_0 hX dX8_sweep_67 ?_
          refine ag_X8_sweeps hX fl_X8_126 dX8_sweep_68 ?_
          first | with_reducible refine aw_imulN hX dX8_sweep_71 ?_ | refine aw_imul hX dX8_sweep_71 ?_
          refine aw_iload_1 hX dX8_sweep_72 ?_
          refine aw_iast hX dX8_sweep_73 rfl (fun _ => rfl) (by decide) (by omega) ?_
          refine aw_aload_0 hX dX8_sweep_74 ?_
          refine ag_X8_sweep hX fl_X8_37 dX8_sweep_75 ?_
          try simp only [sN_N, sN_A, sN_L, sN_R, sA_N, sA_A, sA_L, sA_R, sL_N, sL_A, sL_L, sL_R, sR_N, sR_A, sR_L, sR_R, reduceIte]
          refine aw_iconst hX (v := nI 4) (by decide) dX8_sweep_78 ?_
          refine aw_aload_0 hX dX8_sweep_79 ?_
          refine ag_X8_sweeps hX fl_X8_126 dX8_sweep_80 ?_
          try simp only [sN_N, sN_A, sN_L, sN_R, sA_N, sA_A, sA_L, sA_R, sL_N, sL_A, sL_L, sL_R, sR_N, sR_A, sR_L, sR_R, reduceIte]
          first | with_reducible refine aw_imulN hX dX8_sweep_83 ?_ | refine aw_imul hX dX8_sweep_83 ?_
          refine aw_iconst hX (v := nI 1) (by decide) dX8_sweep_84 ?_
          first | with_reducible refine aw_iaddN hX dX8_sweep_85 ?_ | refine aw_iadd hX dX8_sweep_85 ?_
          refine aw_aload_0 hX dX8_sweep_86 ?_
          refine ag_X8_today hX fl_X8_86 dX8_sweep_87 ?_
          try simp only [sN_N, sN_A, sN_L, sN_R, sA_N, sA_A, sA_L, sA_R, sL_N, sL_A, sL_L, sL_R, sR_N, sR_A, sR_L, sR_R, reduceIte]
          refine aw_iast hX dX8_sweep_90 rfl (fun _ => rfl) (by decide) (by omega) ?_
          refine aw_aload_0 hX dX8_sweep_91 ?_
          refine ag_X8_sweep hX fl_X8_37 dX8_sweep_92 ?_
          try simp only [sN_N, sN_A, sN_L, sN_R, sA_N, sA_A, sA_L, sA_R, sL_N, sL_A, sL_L, sL_R, sR_N, sR_A, sR_L, sR_R, reduceIte]
          refine aw_iconst hX (v := nI 4) (by decide) dX8_sweep_95 ?_
          refine aw_aload_0 hX dX8_sweep_96 ?_
          refine ag_X8_sweeps hX fl_X8_126 dX8_sweep_97 ?_
          try simp only [sN_N, sN_A, sN_L, sN_R, sA_N, sA_A, sA_L, sA_R, sL_N, sL_A, sL_L, sL_R, sR_N, sR_A, sR_L, sR_R, reduceIte]
          first | with_reducible refine aw_imulN hX dX8_sweep_100 ?_ | refine aw_imul hX dX8_sweep_100 ?_
          refine aw_iconst hX (v := nI 2) (by decide) dX8_sweep_101 ?_
          first | with_reducible refine aw_iaddN hX dX8_sweep_102 ?_ | refine aw_iadd hX dX8_sweep_102 ?_
          refine aw_iload_2 hX dX8_sweep_103 ?_
          refine aw_iast hX dX8_sweep_104 rfl (fun _ => rfl) (by decide) (by omega) ?_
          refine aw_aload_0 hX dX8_sweep_105 ?_
          refine ag_X8_sweep hX fl_X8_37 dX8_sweep_106 ?_
          try simp only [sN_N, sN_A, sN_L, sN_R, sA_N, sA_A, sA_L, sA_R, sL_N, sL_A, sL_L, sL_R, sR_N, sR_A, sR_L, sR_R, reduceIte]
          refine aw_iconst hX (v := nI 4) (by decide) dX8_sweep_109 ?_
          refine aw_aload_0 hX dX8_sweep_110 ?_
          refine ag_X8_sweeps hX fl_X8_126 dX8_sweep_111 ?_
          try simp only [sN_N, sN_A, sN_L, sN_R, sA_N, sA_A, sA_L, sA_R, sL_N, sL_A, sL_L, sL_R, sR_N, sR_A, sR_L, sR_R, reduceIte]
          first | with_reducible refine aw_imulN hX dX8_sweep_114 ?_ | refine aw_imul hX dX8_sweep_114 ?_
          refine aw_iconst hX (v := nI 3) (by decide) dX8_sweep_115 ?_
          first | with_reducible refine aw_iaddN hX dX8_sweep_116 ?_ | refine aw_iadd hX dX8_sweep_116 ?_
          refine aw_iload_3 hX dX8_sweep_117 ?_
          refine aw_iast hX dX8_sweep_118 rfl (fun _ => rfl) (by decide) (by omega) ?_
          refine aw_aload_0 hX dX8_sweep_119 ?_
          refine aw_dup hX rfl dX8_sweep_120 ?_
          refine ag_X8_sweeps hX fl_X8_126 dX8_sweep_121 ?_
          try simp only [sN_N, sN_A, sN_L, sN_R, sA_N, sA_A, sA_L, sA_R, sL_N, sL_A, sL_L, sL_R, sR_N, sR_A, sR_L, sR_R, reduceIte]
          refine aw_iconst hX (v := nI 1) (by decide) dX8_sweep_124 ?_
          first | with_reducible refine aw_iaddN hX dX8_sweep_125 ?_ | refine aw_iadd hX dX8_sweep_125 ?_
          refine ap_X8_sweeps hX fl_X8_126 dX8_sweep_126 ?_
          refine aw_aload_0 hX dX8_sweep_129 ?_
          refine ag_X8_flue hX fl_X8_28 dX8_sweep_130 ?_
          try simp only [sN_N, sN_A, sN_L, sN_R, sA_N, sA_A, sA_L, sA_R, sL_N, sL_A, sL_L, sL_R, sR_N, sR_A, sR_L, sR_R, reduceIte]
          refine aw_bipush hX (v := nI 11) (by decide) dX8_sweep_133 ?_
          refine aw_iload_1 hX dX8_sweep_135 ?_
          first | with_reducible refine aw_imulN hX dX8_sweep_136 ?_ | refine aw_imul hX dX8_sweep_136 ?_
          refine aw_bipush hX (v := nI 9) (by decide) dX8_sweep_137 ?_
          first | with_reducible refine aw_iaddN hX dX8_sweep_139 ?_ | refine aw_iadd hX dX8_sweep_139 ?_
          refine aw_aload_0 hX dX8_sweep_140 ?_
          refine ag_X8_today hX fl_X8_86 dX8_sweep_141 ?_
          try simp only [sN_N, sN_A, sN_L, sN_R, sA_N, sA_A, sA_L, sA_R, sL_N, sL_A, sL_L, sL_R, sR_N, sR_A, sR_L, sR_R, reduceIte]
          refine aw_iast hX dX8_sweep_144 rfl (fun _ => rfl) (by decide) (by omega) ?_
          refine aw_aload_0 hX dX8_sweep_145 ?_
          refine ag_X8_flue hX fl_X8_28 dX8_sweep_146 ?_
          try simp only [sN_N, sN_A, sN_L, sN_R, sA_N, sA_A, sA_L, sA_R, sL_N, sL_A, sL_L, sL_R, sR_N, sR_A, sR_L, sR_R, reduceIte]
          refine aw_bipush hX (v := nI 11) (by decide) dX8_sweep_149 ?_
          refine aw_iload_1 hX dX8_sweep_151 ?_
          first | with_reducible refine aw_imulN hX dX8_sweep_152 ?_ | refine aw_imul hX dX8_sweep_152 ?_
          refine aw_bipush hX (v := nI 10) (by decide) dX8_sweep_153 ?_
          first | with_reducible refine aw_iaddN hX dX8_sweep_155 ?_ | refine aw_iadd hX dX8_sweep_155 ?_
          refine aw_iconst hX (v := nI 0) (by decide) dX8_sweep_156 ?_
          refine aw_iast hX dX8_sweep_157 rfl (fun _ => rfl) (by decide) (by omega) ?_
          refine aw_iload_3 hX dX8_sweep_158 ?_
          refine aw_finI (hR _ _ dX8_sweep_159) ?_ ?_
          · rfl
          · rfl
        · exact absurd c_44 (by omega)
      · exact absurd c_32 hd
  · cases c_10
set_option maxHeartbeats 4000000 in
set_option maxRecDepth 100000 in
theorem m_X8_refuse_bad (d : Nat) (G : GT) (S : St) (h13 : S.1 13 = 0) (f : Int32) (h18 : S.1 18 ≤ 12) (h : hasB f (S.1 18) = false) : rX8_refuse G (d + 3) [.ref (gad G 8), .int f] S (some (.int (-1))) S := by
  refine runs_I (d := (d + 2)) (by decide) (Nat.le_of_ble_eq_true rfl) (fun X (hX : XC X G (d + 2) RX8 cX8_refuse 2) hR => ?_)
  show AW X G 0 [.ref (gad G 8), .int f] [] S
  refine aw_aload_0 hX dX8_refuse_0 ?_
  refine aw_iconst hX (v := nI 0) (by decide) dX8_refuse_1 ?_
  refine ap_X8_thrown hX fl_X8_57 dX8_refuse_2 ?_
  refine aw_S (sN_self h13) ?_
  refine aw_aload_0 hX dX8_refuse_5 ?_
  refine aw_iload_1 hX dX8_refuse_6 ?_
  refine cv_X8_isFlue hX ml_X8_96 dX8_refuse_7 (m_X8_isFlue _ G S _ false h18 h) (Nat.le_of_ble_eq_true rfl) ?_
  first | with_reducible refine aw_ifneB hX (tgt := 15) dX8_refuse_10 (by decide) (fun c_10 => ?_) (fun c_10 => ?_) | refine aw_ifne hX (tgt := 15) dX8_refuse_10 (by decide) (fun c_10 => ?_) (fun c_10 => ?_)
  · cases c_10
  · skip
    refine aw_iconst hX (v := (-1)) (by decide) dX8_refuse_13 ?_
    refine aw_finI (hR _ _ dX8_refuse_14) ?_ ?_
    · rfl
    · rfl
set_option maxHeartbeats 4000000 in
set_option maxRecDepth 100000 in
theorem m_X8_refuse_state (d : Nat) (G : GT) (S : St) (h13 : S.1 13 = 0) (i : Nat) (hi0 : i < S.1 18) (h18 : S.1 18 ≤ 12) (h19 : S.1 19 ≤ 30) (h : foM S i = true) : rX8_refuse G (d + 3) [.ref (gad G 8), .int (nI i)] S (some (.int (-2))) S := by
  have hi : i < 12 := by omega
  refine runs_I (d := (d + 2)) (by decide) (Nat.le_of_ble_eq_true rfl) (fun X (hX : XC X G (d + 2) RX8 cX8_refuse 2) hR => ?_)
  show AW X G 0 [.ref (gad G 8), .int (nI i)] [] S
  refine aw_aload_0 hX dX8_refuse_0 ?_
  refine aw_iconst hX (v := nI 0) (by decide) dX8_refuse_1 ?_
  refine ap_X8_thrown hX fl_X8_57 dX8_refuse_2 ?_
  refine aw_S (sN_self h13) ?_
  refine aw_aload_0 hX dX8_refuse_5 ?_
  refine aw_iload_1 hX dX8_refuse_6 ?_
  refine cv_X8_isFlue hX ml_X8_96 dX8_refuse_7 (m_X8_isFlue _ G S _ true h18 (hasB_t hi0 (by omega))) (Nat.le_of_ble_eq_true rfl) ?_
  first | with_reducible refine aw_ifneB hX (tgt := 15) dX8_refuse_10 (by decide) (fun c_10 => ?_) (fun c_10 => ?_) | refine aw_ifne hX (tgt := 15) dX8_refuse_10 (by decide) (fun c_10 => ?_) (fun c_10 => ?_)
  · skip
    refine aw_aload_0 hX dX8_refuse_15 ?_
    refine aw_iload_1 hX dX8_refuse_16 ?_
    refine cv_X8_isForbidden hX ml_X8_116 dX8_refuse_17 (m_X8_isForbidden _ G S i hi h19) (Nat.le_of_ble_eq_true rfl) ?_
    first | with_reducible refine aw_ifeqB hX (tgt := 26) dX8_refuse_20 (by decide) (fun c_20 => ?_) (fun c_20 => ?_) | refine aw_ifeq hX (tgt := 26) dX8_refuse_20 (by decide) (fun c_20 => ?_) (fun c_20 => ?_)
    · rw [h] at c_20; cases c_20
    · skip
      refine aw_bipush hX (v := (-2)) (by decide) dX8_refuse_23 ?_
      refine aw_finI (hR _ _ dX8_refuse_25) ?_ ?_
      · rfl
      · rfl
  · cases c_10
set_option maxHeartbeats 4000000 in
set_option maxRecDepth 100000 in
theorem m_X8_refuse_ok (d : Nat) (G : GT) (S : St) (h13 : S.1 13 = 0) (i : Nat) (hi0 : i < S.1 18) (h18 : S.1 18 ≤ 12) (h19 : S.1 19 ≤ 30) (h : foM S i = false) : rX8_refuse G (d + 3) [.ref (gad G 8), .int (nI i)] S (some (.int (ofM S i 10 + nI 1))) (sA S 52 (11 * i + 10) (ofM S i 10 + nI 1)) := by
  have hi : i < 12 := by omega
  refine runs_I (d := (d + 2)) (by decide) (Nat.le_of_ble_eq_true rfl) (fun X (hX : XC X G (d + 2) RX8 cX8_refuse 2) hR => ?_)
  show AW X G 0 [.ref (gad G 8), .int (nI i)] [] S
  refine aw_aload_0 hX dX8_refuse_0 ?_
  refine aw_iconst hX (v := nI 0) (by decide) dX8_refuse_1 ?_
  refine ap_X8_thrown hX fl_X8_57 dX8_refuse_2 ?_
  refine aw_S (sN_self h13) ?_
  refine aw_aload_0 hX dX8_refuse_5 ?_
  refine aw_iload_1 hX dX8_refuse_6 ?_
  refine cv_X8_isFlue hX ml_X8_96 dX8_refuse_7 (m_X8_isFlue _ G S _ true h18 (hasB_t hi0 (by omega))) (Nat.le_of_ble_eq_true rfl) ?_
  first | with_reducible refine aw_ifneB hX (tgt := 15) dX8_refuse_10 (by decide) (fun c_10 => ?_) (fun c_10 => ?_) | refine aw_ifne hX (tgt := 15) dX8_refuse_10 (by decide) (fun c_10 => ?_) (fun c_10 => ?_)
  · skip
    refine aw_aload_0 hX dX8_refuse_15 ?_
    refine aw_iload_1 hX dX8_refuse_16 ?_
    refine cv_X8_isForbidden hX ml_X8_116 dX8_refuse_17 (m_X8_isForbidden _ G S i hi h19) (Nat.le_of_ble_eq_true rfl) ?_
    first | with_reducible refine aw_ifeqB hX (tgt := 26) dX8_refuse_20 (by decide) (fun c_20 => ?_) (fun c_20 => ?_) | refine aw_ifeq hX (tgt := 26) dX8_refuse_20 (by decide) (fun c_20 => ?_) (fun c_20 => ?_)
    · skip
      refine aw_aload_0 hX dX8_refuse_26 ?_
      refine ag_X8_flue hX fl_X8_28 dX8_refuse_27 ?_
      refine aw_bipush hX (v := nI 11) (by decide) dX8_refuse_30 ?_
      refine aw_iload_1 hX dX8_refuse_32 ?_
      first | with_reducible refine aw_imulN hX dX8_refuse_33 ?_ | refine aw_imul hX dX8_refuse_33 ?_
      refine aw_bipush hX (v := nI 10) (by decide) dX8_refuse_34 ?_
      first | with_reducible refine aw_iaddN hX dX8_refuse_36 ?_ | refine aw_iadd hX dX8_refuse_36 ?_
      refine aw_dup2 hX rfl rfl dX8_refuse_37 ?_
      refine aw_iald hX dX8_refuse_38 rfl (by decide) (by omega) ?_
      refine aw_iconst hX (v := nI 1) (by decide) dX8_refuse_39 ?_
      first | with_reducible refine aw_iaddN hX dX8_refuse_40 ?_ | refine aw_iadd hX dX8_refuse_40 ?_
      refine aw_iast hX dX8_refuse_41 rfl (fun _ => rfl) (by decide) (by omega) ?_
      refine aw_aload_0 hX dX8_refuse_42 ?_
      refine aw_iload_1 hX dX8_refuse_43 ?_
      refine aw_bipush hX (v := nI 10) (by decide) dX8_refuse_44 ?_
      refine cv_X8_of hX ml_X8_99 dX8_refuse_46 (m_X8_of _ G (sA S 52 (11 * i + 10) (ofM S i 10 + nI 1)) i 10 hi (by decide)) (Nat.le_of_ble_eq_true rfl) ?_
      refine aw_finI (hR _ _ dX8_refuse_49) ?_ ?_
      · simp [ofM, sA_A, upd]
      · rfl
    · rw [h] at c_20; cases c_20
  · cases c_10
set_option maxHeartbeats 4000000 in
set_option maxRecDepth 100000 in
theorem m_X8_look_bad (d : Nat) (G : GT) (S : St) (h13 : S.1 13 = 0) (f dy : Int32) (w : Int32) (h18 : S.1 18 ≤ 12) (h : (hasB f (S.1 18) && inR dy (nI 0) (nI (S.1 14))) = false) : rX8_look G (d + 3) [.ref (gad G 8), .int f, .int dy, .int w] S (some (.int (-1))) S := by
  refine runs_I (d := (d + 2)) (by decide) (Nat.le_of_ble_eq_true rfl) (fun X (hX : XC X G (d + 2) RX8 cX8_look 4) hR => ?_)
  show AW X G 0 [.ref (gad G 8), .int f, .int dy, .int w] [] S
  refine aw_aload_0 hX dX8_look_0 ?_
  refine aw_iconst hX (v := nI 0) (by decide) dX8_look_1 ?_
  refine ap_X8_thrown hX fl_X8_57 dX8_look_2 ?_
  refine aw_S (sN_self h13) ?_
  refine aw_aload_0 hX dX8_look_5 ?_
  refine aw_iload_1 hX dX8_look_6 ?_
  refine cv_X8_isFlue hX ml_X8_96 dX8_look_7 (m_X8_isFlue _ G S _ _ h18 rfl) (Nat.le_of_ble_eq_true rfl) ?_
  first | with_reducible refine aw_ifeqB hX (tgt := 25) dX8_look_10 (by decide) (fun c_10 => ?_) (fun c_10 => ?_) | refine aw_ifeq hX (tgt := 25) dX8_look_10 (by decide) (fun c_10 => ?_) (fun c_10 => ?_)
  · skip
    refine aw_iconst hX (v := (-1)) (by decide) dX8_look_25 ?_
    refine aw_finI (hR _ _ dX8_look_26) ?_ ?_
    · rfl
    · rfl
  · skip
    refine aw_iload_2 hX dX8_look_13 ?_
    refine aw_iconst hX (v := nI 0) (by decide) dX8_look_14 ?_
    refine aw_aload_0 hX dX8_look_15 ?_
    refine ag_X8_today hX fl_X8_86 dX8_look_16 ?_
    refine cs_X8_in hX ml_X8_60 dX8_look_19 (m_X8_in _ G S _ _ _) (Nat.le_of_ble_eq_true rfl) ?_
    first | with_reducible refine aw_ifneB hX (tgt := 27) dX8_look_22 (by decide) (fun c_22 => ?_) (fun c_22 => ?_) | refine aw_ifne hX (tgt := 27) dX8_look_22 (by decide) (fun c_22 => ?_) (fun c_22 => ?_)
    · simp [c_10, c_22] at h
    · skip
      refine aw_iconst hX (v := (-1)) (by decide) dX8_look_25 ?_
      refine aw_finI (hR _ _ dX8_look_26) ?_ ?_
      · rfl
      · rfl
set_option maxHeartbeats 4000000 in
set_option maxRecDepth 100000 in
theorem m_X8_known_bad (d : Nat) (G : GT) (S : St) (h13 : S.1 13 = 0) (f dy : Int32) (h18 : S.1 18 ≤ 12) (h : (hasB f (S.1 18) && inR dy (nI 0) (nI (S.1 14))) = false) : rX8_known G (d + 3) [.ref (gad G 8), .int f, .int dy] S (some (.int (-1))) S := by
  refine runs_I (d := (d + 2)) (by decide) (Nat.le_of_ble_eq_true rfl) (fun X (hX : XC X G (d + 2) RX8 cX8_known 3) hR => ?_)
  show AW X G 0 [.ref (gad G 8), .int f, .int dy] [] S
  refine aw_aload_0 hX dX8_known_0 ?_
  refine aw_iconst hX (v := nI 0) (by decide) dX8_known_1 ?_
  refine ap_X8_thrown hX fl_X8_57 dX8_known_2 ?_
  refine aw_S (sN_self h13) ?_
  refine aw_aload_0 hX dX8_known_5 ?_
  refine aw_iload_1 hX dX8_known_6 ?_
  refine cv_X8_isFlue hX ml_X8_96 dX8_known_7 (m_X8_isFlue _ G S _ _ h18 rfl) (Nat.le_of_ble_eq_true rfl) ?_
  first | with_reducible refine aw_ifeqB hX (tgt := 34) dX8_known_10 (by decide) (fun c_10 => ?_) (fun c_10 => ?_) | refine aw_ifeq hX (tgt := 34) dX8_known_10 (by decide) (fun c_10 => ?_) (fun c_10 => ?_)
  · skip
    refine aw_iconst hX (v := (-1)) (by decide) dX8_known_34 ?_
    refine aw_finI (hR _ _ dX8_known_35) ?_ ?_
    · rfl
    · rfl
  · skip
    refine aw_iload_2 hX dX8_known_13 ?_
    refine aw_iconst hX (v := nI 0) (by decide) dX8_known_14 ?_
    refine aw_aload_0 hX dX8_known_15 ?_
    refine ag_X8_today hX fl_X8_86 dX8_known_16 ?_
    refine cs_X8_in hX ml_X8_60 dX8_known_19 (m_X8_in _ G S _ _ _) (Nat.le_of_ble_eq_true rfl) ?_
    first | with_reducible refine aw_ifeqB hX (tgt := 34) dX8_known_22 (by decide) (fun c_22 => ?_) (fun c_22 => ?_) | refine aw_ifeq hX (tgt := 34) dX8_known_22 (by decide) (fun c_22 => ?_) (fun c_22 => ?_)
    · skip
      refine aw_iconst hX (v := (-1)) (by decide) dX8_known_34 ?_
      refine aw_finI (hR _ _ dX8_known_35) ?_ ?_
      · rfl
      · rfl
    · simp [c_10, c_22] at h
set_option maxHeartbeats 4000000 in
set_option maxRecDepth 100000 in
theorem m_X8_fire_bad (d : Nat) (G : GT) (S : St) (h13 : S.1 13 = 0) (f dy : Int32) (h18 : S.1 18 ≤ 12) (h : (hasB f (S.1 18) && inR dy (nI 0) (nI (S.1 14))) = false) : rX8_fire G (d + 3) [.ref (gad G 8), .int f, .int dy] S (some (.int (-1))) S := by
  refine runs_I (d := (d + 2)) (by decide) (Nat.le_of_ble_eq_true rfl) (fun X (hX : XC X G (d + 2) RX8 cX8_fire 3) hR => ?_)
  show AW X G 0 [.ref (gad G 8), .int f, .int dy] [] S
  refine aw_aload_0 hX dX8_fire_0 ?_
  refine aw_iconst hX (v := nI 0) (by decide) dX8_fire_1 ?_
  refine ap_X8_thrown hX fl_X8_57 dX8_fire_2 ?_
  refine aw_S (sN_self h13) ?_
  refine aw_aload_0 hX dX8_fire_5 ?_
  refine aw_iload_1 hX dX8_fire_6 ?_
  refine cv_X8_isFlue hX ml_X8_96 dX8_fire_7 (m_X8_isFlue _ G S _ _ h18 rfl) (Nat.le_of_ble_eq_true rfl) ?_
  first | with_reducible refine aw_ifeqB hX (tgt := 25) dX8_fire_10 (by decide) (fun c_10 => ?_) (fun c_10 => ?_) | refine aw_ifeq hX (tgt := 25) dX8_fire_10 (by decide) (fun c_10 => ?_) (fun c_10 => ?_)
  · skip
    refine aw_iconst hX (v := (-1)) (by decide) dX8_fire_25 ?_
    refine aw_finI (hR _ _ dX8_fire_26) ?_ ?_
    · rfl
    · rfl
  · skip
    refine aw_iload_2 hX dX8_fire_13 ?_
    refine aw_iconst hX (v := nI 0) (by decide) dX8_fire_14 ?_
    refine aw_aload_0 hX dX8_fire_15 ?_
    refine ag_X8_today hX fl_X8_86 dX8_fire_16 ?_
    refine cs_X8_in hX ml_X8_60 dX8_fire_19 (m_X8_in _ G S _ _ _) (Nat.le_of_ble_eq_true rfl) ?_
    first | with_reducible refine aw_ifneB hX (tgt := 27) dX8_fire_22 (by decide) (fun c_22 => ?_) (fun c_22 => ?_) | refine aw_ifne hX (tgt := 27) dX8_fire_22 (by decide) (fun c_22 => ?_) (fun c_22 => ?_)
    · simp [c_10, c_22] at h
    · skip
      refine aw_iconst hX (v := (-1)) (by decide) dX8_fire_25 ?_
      refine aw_finI (hR _ _ dX8_fire_26) ?_ ?_
      · rfl
      · rfl
set_option maxHeartbeats 4000000 in
set_option maxRecDepth 100000 in
theorem m_X8_known_ok (d : Nat) (G : GT) (S : St) (h13 : S.1 13 = 0) (i : Nat) (hi0 : i < S.1 18) (h18 : S.1 18 ≤ 12) (dy : Int32) (hdy : inR dy (nI 0) (nI (S.1 14)) = true) (h19 : S.1 19 ≤ 30) : rX8_known G (d + 3) [.ref (gad G 8), .int (nI i), .int dy] S (some (.int (knM S (nI i) dy))) S := by
  have hi : i < 12 := by omega
  refine runs_I (d := (d + 2)) (by decide) (Nat.le_of_ble_eq_true rfl) (fun X (hX : XC X G (d + 2) RX8 cX8_known 3) hR => ?_)
  show AW X G 0 [.ref (gad G 8), .int (nI i), .int dy] [] S
  refine aw_aload_0 hX dX8_known_0 ?_
  refine aw_iconst hX (v := nI 0) (by decide) dX8_known_1 ?_
  refine ap_X8_thrown hX fl_X8_57 dX8_known_2 ?_
  refine aw_S (sN_self h13) ?_
  refine aw_aload_0 hX dX8_known_5 ?_
  refine aw_iload_1 hX dX8_known_6 ?_
  refine cv_X8_isFlue hX ml_X8_96 dX8_known_7 (m_X8_isFlue _ G S _ true h18 (hasB_t hi0 (by omega))) (Nat.le_of_ble_eq_true rfl) ?_
  first | with_reducible refine aw_ifeqB hX (tgt := 34) dX8_known_10 (by decide) (fun c_10 => ?_) (fun c_10 => ?_) | refine aw_ifeq hX (tgt := 34) dX8_known_10 (by decide) (fun c_10 => ?_) (fun c_10 => ?_)
  · cases c_10
  · skip
    refine aw_iload_2 hX dX8_known_13 ?_
    refine aw_iconst hX (v := nI 0) (by decide) dX8_known_14 ?_
    refine aw_aload_0 hX dX8_known_15 ?_
    refine ag_X8_today hX fl_X8_86 dX8_known_16 ?_
    refine cs_X8_in hX ml_X8_60 dX8_known_19 (m_X8_in_b _ G S _ _ _ true hdy) (Nat.le_of_ble_eq_true rfl) ?_
    first | with_reducible refine aw_ifeqB hX (tgt := 34) dX8_known_22 (by decide) (fun c_22 => ?_) (fun c_22 => ?_) | refine aw_ifeq hX (tgt := 34) dX8_known_22 (by decide) (fun c_22 => ?_) (fun c_22 => ?_)
    · cases c_22
    · skip
      refine aw_aload_0 hX dX8_known_25 ?_
      refine aw_iload_1 hX dX8_known_26 ?_
      refine aw_iload_2 hX dX8_known_27 ?_
      refine cv_X8_knownOn hX ml_X8_113 dX8_known_28 (m_X8_knownOn _ G S _ _ h19) (Nat.le_of_ble_eq_true rfl) ?_
      refine aw_goto hX (tgt := 35) dX8_known_31 (by decide) ?_
      refine aw_finI (hR _ _ dX8_known_35) ?_ ?_
      · rfl
      · rfl
set_option maxHeartbeats 4000000 in
set_option maxRecDepth 100000 in
theorem m_X8_look_state (d : Nat) (G : GT) (S : St) (h13 : S.1 13 = 0) (i : Nat) (hi0 : i < S.1 18) (h18 : S.1 18 ≤ 12) (dy : Int32) (hdy : inR dy (nI 0) (nI (S.1 14)) = true) (b : Bool) (h : ¬ ofM S i 8 ≤ dy) : rX8_look G (d + 3) [.ref (gad G 8), .int (nI i), .int dy, .int (bI b)] S (some (.int (-2))) S := by
  have hi : i < 12 := by omega
  refine runs_I (d := (d + 2)) (by decide) (Nat.le_of_ble_eq_true rfl) (fun X (hX : XC X G (d + 2) RX8 cX8_look 4) hR => ?_)
  show AW X G 0 [.ref (gad G 8), .int (nI i), .int dy, .int (bI b)] [] S
  refine aw_aload_0 hX dX8_look_0 ?_
  refine aw_iconst hX (v := nI 0) (by decide) dX8_look_1 ?_
  refine ap_X8_thrown hX fl_X8_57 dX8_look_2 ?_
  refine aw_S (sN_self h13) ?_
  refine aw_aload_0 hX dX8_look_5 ?_
  refine aw_iload_1 hX dX8_look_6 ?_
  refine cv_X8_isFlue hX ml_X8_96 dX8_look_7 (m_X8_isFlue _ G S _ true h18 (hasB_t hi0 (by omega))) (Nat.le_of_ble_eq_true rfl) ?_
  first | with_reducible refine aw_ifeqB hX (tgt := 25) dX8_look_10 (by decide) (fun c_10 => ?_) (fun c_10 => ?_) | refine aw_ifeq hX (tgt := 25) dX8_look_10 (by decide) (fun c_10 => ?_) (fun c_10 => ?_)
  · cases c_10
  · skip
    refine aw_iload_2 hX dX8_look_13 ?_
    refine aw_iconst hX (v := nI 0) (by decide) dX8_look_14 ?_
    refine aw_aload_0 hX dX8_look_15 ?_
    refine ag_X8_today hX fl_X8_86 dX8_look_16 ?_
    refine cs_X8_in hX ml_X8_60 dX8_look_19 (m_X8_in_b _ G S _ _ _ true hdy) (Nat.le_of_ble_eq_true rfl) ?_
    first | with_reducible refine aw_ifneB hX (tgt := 27) dX8_look_22 (by decide) (fun c_22 => ?_) (fun c_22 => ?_) | refine aw_ifne hX (tgt := 27) dX8_look_22 (by decide) (fun c_22 => ?_) (fun c_22 => ?_)
    · skip
      refine aw_aload_0 hX dX8_look_27 ?_
      refine aw_iload_1 hX dX8_look_28 ?_
      refine aw_bipush hX (v := nI 8) (by decide) dX8_look_29 ?_
      refine cv_X8_of hX ml_X8_99 dX8_look_31 (m_X8_of _ G S i 8 hi (by decide)) (Nat.le_of_ble_eq_true rfl) ?_
      refine aw_iload_2 hX dX8_look_34 ?_
      first | with_reducible refine aw_icmpleN hX (tgt := 41) dX8_look_35 (by decide) (by omega) (by omega) (fun c_35 => ?_) (fun c_35 => ?_) | refine aw_jle hX (tgt := 41) dX8_look_35 (by decide) (fun c_35 => ?_) (fun c_35 => ?_)
      · exact absurd c_35 h
      · skip
        refine aw_bipush hX (v := (-2)) (by decide) dX8_look_38 ?_
        refine aw_finI (hR _ _ dX8_look_40) ?_ ?_
        · rfl
        · rfl
    · cases c_22
set_option maxHeartbeats 4000000 in
set_option maxRecDepth 100000 in
theorem m_X8_look_full (d : Nat) (G : GT) (S : St) (h13 : S.1 13 = 0) (i : Nat) (hi0 : i < S.1 18) (h18 : S.1 18 ≤ 12) (dy : Int32) (hdy : inR dy (nI 0) (nI (S.1 14)) = true) (b : Bool) (h : ofM S i 8 ≤ dy) (hl : S.1 19 = 30) : rX8_look G (d + 3) [.ref (gad G 8), .int (nI i), .int dy, .int (bI b)] S (some (.int (-3))) S := by
  have hi : i < 12 := by omega
  refine runs_I (d := (d + 2)) (by decide) (Nat.le_of_ble_eq_true rfl) (fun X (hX : XC X G (d + 2) RX8 cX8_look 4) hR => ?_)
  show AW X G 0 [.ref (gad G 8), .int (nI i), .int dy, .int (bI b)] [] S
  refine aw_aload_0 hX dX8_look_0 ?_
  refine aw_iconst hX (v := nI 0) (by decide) dX8_look_1 ?_
  refine ap_X8_thrown hX fl_X8_57 dX8_look_2 ?_
  refine aw_S (sN_self h13) ?_
  refine aw_aload_0 hX dX8_look_5 ?_
  refine aw_iload_1 hX dX8_look_6 ?_
  refine cv_X8_isFlue hX ml_X8_96 dX8_look_7 (m_X8_isFlue _ G S _ true h18 (hasB_t hi0 (by omega))) (Nat.le_of_ble_eq_true rfl) ?_
  first | with_reducible refine aw_ifeqB hX (tgt := 25) dX8_look_10 (by decide) (fun c_10 => ?_) (fun c_10 => ?_) | refine aw_ifeq hX (tgt := 25) dX8_look_10 (by decide) (fun c_10 => ?_) (fun c_10 => ?_)
  · cases c_10
  · skip
    refine aw_iload_2 hX dX8_look_13 ?_
    refine aw_iconst hX (v := nI 0) (by decide) dX8_look_14 ?_
    refine aw_aload_0 hX dX8_look_15 ?_
    refine ag_X8_today hX fl_X8_86 dX8_look_16 ?_
    refine cs_X8_in hX ml_X8_60 dX8_look_19 (m_X8_in_b _ G S _ _ _ true hdy) (Nat.le_of_ble_eq_true rfl) ?_
    first | with_reducible refine aw_ifneB hX (tgt := 27) dX8_look_22 (by decide) (fun c_22 => ?_) (fun c_22 => ?_) | refine aw_ifne hX (tgt := 27) dX8_look_22 (by decide) (fun c_22 => ?_) (fun c_22 => ?_)
    · skip
      refine aw_aload_0 hX dX8_look_27 ?_
      refine aw_iload_1 hX dX8_look_28 ?_
      refine aw_bipush hX (v := nI 8) (by decide) dX8_look_29 ?_
      refine cv_X8_of hX ml_X8_99 dX8_look_31 (m_X8_of _ G S i 8 hi (by decide)) (Nat.le_of_ble_eq_true rfl) ?_
      refine aw_iload_2 hX dX8_look_34 ?_
      first | with_reducible refine aw_icmpleN hX (tgt := 41) dX8_look_35 (by decide) (by omega) (by omega) (fun c_35 => ?_) (fun c_35 => ?_) | refine aw_jle hX (tgt := 41) dX8_look_35 (by decide) (fun c_35 => ?_) (fun c_35 => ?_)
      · skip
        refine aw_aload_0 hX dX8_look_41 ?_
        refine ag_X8_looks hX fl_X8_110 dX8_look_42 ?_
        refine aw_bipush hX (v := nI 30) (by decide) dX8_look_45 ?_
        first | with_reducible refine aw_icmpneN hX (tgt := 53) dX8_look_47 (by decide) (by omega) (by omega) (fun c_47 => ?_) (fun c_47 => ?_) | refine aw_icmpne hX (tgt := 53) dX8_look_47 (by decide) (fun c_47 => ?_) (fun c_47 => ?_)
        · exact absurd hl c_47
        · skip
          refine aw_bipush hX (v := (-3)) (by decide) dX8_look_50 ?_
          refine aw_finI (hR _ _ dX8_look_52) ?_ ?_
          · rfl
          · rfl
      · exact absurd h c_35
    · cases c_22
set_option maxHeartbeats 4000000 in
set_option maxRecDepth 100000 in
theorem m_X8_look_true (d : Nat) (G : GT) (S : St) (h13 : S.1 13 = 0) (i : Nat) (hi0 : i < S.1 18) (h18 : S.1 18 ≤ 12) (dy : Int32) (hdy : inR dy (nI 0) (nI (S.1 14)) = true) (h : ofM S i 8 ≤ dy) (hl : S.1 19 < 30) : rX8_look G (d + 3) [.ref (gad G 8), .int (nI i), .int dy, .int (bI true)] S (some (.int (nI (S.1 19)))) (sA (sN (sA (sA (sA (sA S 53 (4 * S.1 19) (nI i)) 53 (4 * S.1 19 + 1) dy) 53 (4 * S.1 19 + 2) (bI true)) 53 (4 * S.1 19 + 3) (nI (S.1 14))) 19 (S.1 19 + 1)) 52 (11 * i + 10) (nI 0)) := by
  have hi : i < 12 := by omega
  refine runs_I (d := (d + 2)) (by decide) (Nat.le_of_ble_eq_true rfl) (fun X (hX : XC X G (d + 2) RX8 cX8_look 4) hR => ?_)
  show AW X G 0 [.ref (gad G 8), .int (nI i), .int dy, .int (bI true)] [] S
  refine aw_aload_0 hX dX8_look_0 ?_
  refine aw_iconst hX (v := nI 0) (by decide) dX8_look_1 ?_
  refine ap_X8_thrown hX fl_X8_57 dX8_look_2 ?_
  refine aw_S (sN_self h13) ?_
  refine aw_aload_0 hX dX8_look_5 ?_
  refine aw_iload_1 hX dX8_look_6 ?_
  refine cv_X8_isFlue hX ml_X8_96 dX8_look_7 (m_X8_isFlue _ G S _ true h18 (hasB_t hi0 (by omega))) (Nat.le_of_ble_eq_true rfl) ?_
  first | with_reducible refine aw_ifeqB hX (tgt := 25) dX8_look_10 (by decide) (fun c_10 => ?_) (fun c_10 => ?_) | refine aw_ifeq hX (tgt := 25) dX8_look_10 (by decide) (fun c_10 => ?_) (fun c_10 => ?_)
  · cases c_10
  · skip
    refine aw_iload_2 hX dX8_look_13 ?_
    refine aw_iconst hX (v := nI 0) (by decide) dX8_look_14 ?_
    refine aw_aload_0 hX dX8_look_15 ?_
    refine ag_X8_today hX fl_X8_86 dX8_look_16 ?_
    refine cs_X8_in hX ml_X8_60 dX8_look_19 (m_X8_in_b _ G S _ _ _ true hdy) (Nat.le_of_ble_eq_true rfl) ?_
    first | with_reducible refine aw_ifneB hX (tgt := 27) dX8_look_22 (by decide) (fun c_22 => ?_) (fun c_22 => ?_) | refine aw_ifne hX (tgt := 27) dX8_look_22 (by decide) (fun c_22 => ?_) (fun c_22 => ?_)
    · skip
      refine aw_aload_0 hX dX8_look_27 ?_
      refine aw_iload_1 hX dX8_look_28 ?_
      refine aw_bipush hX (v := nI 8) (by decide) dX8_look_29 ?_
      refine cv_X8_of hX ml_X8_99 dX8_look_31 (m_X8_of _ G S i 8 hi (by decide)) (Nat.le_of_ble_eq_true rfl) ?_
      refine aw_iload_2 hX dX8_look_34 ?_
      first | with_reducible refine aw_icmpleN hX (tgt := 41) dX8_look_35 (by decide) (by omega) (by omega) (fun c_35 => ?_) (fun c_35 => ?_) | refine aw_jle hX (tgt := 41) dX8_look_35 (by decide) (fun c_35 => ?_) (fun c_35 => ?_)
      · skip
        refine aw_aload_0 hX dX8_look_41 ?_
        refine ag_X8_looks hX fl_X8_110 dX8_look_42 ?_
        refine aw_bipush hX (v := nI 30) (by decide) dX8_look_45 ?_
        first | with_reducible refine aw_icmpneN hX (tgt := 53) dX8_look_47 (by decide) (by omega) (by omega) (fun c_47 => ?_) (fun c_47 => ?_) | refine aw_icmpne hX (tgt := 53) dX8_look_47 (by decide) (fun c_47 => ?_) (fun c_47 => ?_)
        · skip
          refine aw_aload_0 hX dX8_look_53 ?_
          refine ag_X8_look hX fl_X8_31 dX8_look_54 ?_
          refine aw_iconst hX (v := nI 4) (by decide) dX8_look_57 ?_
          refine aw_aload_0 hX dX8_look_58 ?_
          refine ag_X8_looks hX fl_X8_110 dX8_look_59 ?_
          first | with_reducible refine aw_imulN hX dX8_look_62 ?_ | refine aw_imul hX dX8_look_62 ?_
          refine aw_iload_1 hX dX8_look_63 ?_
          refine aw_iast hX dX8_look_64 rfl (fun _ => rfl) (by decide) (by omega) ?_
          refine aw_aload_0 hX dX8_look_65 ?_
          refine ag_X8_look hX fl_X8_31 dX8_look_66 ?_
          try simp only [sN_N, sN_A, sN_L, sN_R, sA_N, sA_A, sA_L, sA_R, sL_N, sL_A, sL_L, sL_R, sR_N, sR_A, sR_L, sR_R, reduceIte]
          refine aw_iconst hX (v := nI 4) (by decide) dX8_look_69 ?_
          refine aw_aload_0 hX dX8_look_70 ?_
          refine ag_X8_looks hX fl_X8_110 dX8_look_71 ?_
          try simp only [sN_N, sN_A, sN_L, sN_R, sA_N, sA_A, sA_L, sA_R, sL_N, sL_A, sL_L, sL_R, sR_N, sR_A, sR_L, sR_R, reduceIte]
          first | with_reducible refine aw_imulN hX dX8_look_74 ?_ | refine aw_imul hX dX8_look_74 ?_
          refine aw_iconst hX (v := nI 1) (by decide) dX8_look_75 ?_
          first | with_reducible refine aw_iaddN hX dX8_look_76 ?_ | refine aw_iadd hX dX8_look_76 ?_
          refine aw_iload_2 hX dX8_look_77 ?_
          refine aw_iast hX dX8_look_78 rfl (fun _ => rfl) (by decide) (by omega) ?_
          refine aw_aload_0 hX dX8_look_79 ?_
          refine ag_X8_look hX fl_X8_31 dX8_look_80 ?_
          try simp only [sN_N, sN_A, sN_L, sN_R, sA_N, sA_A, sA_L, sA_R, sL_N, sL_A, sL_L, sL_R, sR_N, sR_A, sR_L, sR_R, reduceIte]
          refine aw_iconst hX (v := nI 4) (by decide) dX8_look_83 ?_
          refine aw_aload_0 hX dX8_look_84 ?_
          refine ag_X8_looks hX fl_X8_110 dX8_look_85 ?_
          try simp only [sN_N, sN_A, sN_L, sN_R, sA_N, sA_A, sA_L, sA_R, sL_N, sL_A, sL_L, sL_R, sR_N, sR_A, sR_L, sR_R, reduceIte]
          first | with_reducible refine aw_imulN hX dX8_look_88 ?_ | refine aw_imul hX dX8_look_88 ?_
          refine aw_iconst hX (v := nI 2) (by decide) dX8_look_89 ?_
          first | with_reducible refine aw_iaddN hX dX8_look_90 ?_ | refine aw_iadd hX dX8_look_90 ?_
          refine aw_iload_3 hX dX8_look_91 ?_
          first | with_reducible refine aw_ifeqB hX (tgt := 99) dX8_look_92 (by decide) (fun c_92 => ?_) (fun c_92 => ?_) | refine aw_ifeq hX (tgt := 99) dX8_look_92 (by decide) (fun c_92 => ?_) (fun c_92 => ?_)
          · cases c_92
          · skip
            refine aw_iconst hX (v := nI 1) (by decide) dX8_look_95 ?_
            refine aw_goto hX (tgt := 100) dX8_look_96 (by decide) ?_
            refine aw_iast hX dX8_look_100 rfl (fun _ => rfl) (by decide) (by omega) ?_
            refine aw_aload_0 hX dX8_look_101 ?_
            refine ag_X8_look hX fl_X8_31 dX8_look_102 ?_
            try simp only [sN_N, sN_A, sN_L, sN_R, sA_N, sA_A, sA_L, sA_R, sL_N, sL_A, sL_L, sL_R, sR_N, sR_A, sR_L, sR_R, reduceIte]
            refine aw_iconst hX (v := nI 4) (by decide) dX8_look_105 ?_
            refine aw_aload_0 hX dX8_look_106 ?_
            refine ag_X8_looks hX fl_X8_110 dX8_look_107 ?_
            try simp only [sN_N, sN_A, sN_L, sN_R, sA_N, sA_A, sA_L, sA_R, sL_N, sL_A, sL_L, sL_R, sR_N, sR_A, sR_L, sR_R, reduceIte]
            first | with_reducible refine aw_imulN hX dX8_look_110 ?_ | refine aw_imul hX dX8_look_110 ?_
            refine aw_iconst hX (v := nI 3) (by decide) dX8_look_111 ?_
            first | with_reducible refine aw_iaddN hX dX8_look_112 ?_ | refine aw_iadd hX dX8_look_112 ?_
            refine aw_aload_0 hX dX8_look_113 ?_
            refine ag_X8_today hX fl_X8_86 dX8_look_114 ?_
            try simp only [sN_N, sN_A, sN_L, sN_R, sA_N, sA_A, sA_L, sA_R, sL_N, sL_A, sL_L, sL_R, sR_N, sR_A, sR_L, sR_R, reduceIte]
            refine aw_iast hX dX8_look_117 rfl (fun _ => rfl) (by decide) (by omega) ?_
            refine aw_aload_0 hX dX8_look_118 ?_
            refine aw_dup hX rfl dX8_look_119 ?_
            refine ag_X8_looks hX fl_X8_110 dX8_look_120 ?_
            try simp only [sN_N, sN_A, sN_L, sN_R, sA_N, sA_A, sA_L, sA_R, sL_N, sL_A, sL_L, sL_R, sR_N, sR_A, sR_L, sR_R, reduceIte]
            refine aw_iconst hX (v := nI 1) (by decide) dX8_look_123 ?_
            first | with_reducible refine aw_iaddN hX dX8_look_124 ?_ | refine aw_iadd hX dX8_look_124 ?_
            refine ap_X8_looks hX fl_X8_110 dX8_look_125 ?_
            refine aw_aload_0 hX dX8_look_128 ?_
            refine ag_X8_flue hX fl_X8_28 dX8_look_129 ?_
            try simp only [sN_N, sN_A, sN_L, sN_R, sA_N, sA_A, sA_L, sA_R, sL_N, sL_A, sL_L, sL_R, sR_N, sR_A, sR_L, sR_R, reduceIte]
            refine aw_bipush hX (v := nI 11) (by decide) dX8_look_132 ?_
            refine aw_iload_1 hX dX8_look_134 ?_
            first | with_reducible refine aw_imulN hX dX8_look_135 ?_ | refine aw_imul hX dX8_look_135 ?_
            refine aw_bipush hX (v := nI 10) (by decide) dX8_look_136 ?_
            first | with_reducible refine aw_iaddN hX dX8_look_138 ?_ | refine aw_iadd hX dX8_look_138 ?_
            refine aw_iload_3 hX dX8_look_139 ?_
            first | with_reducible refine aw_ifeqB hX (tgt := 147) dX8_look_140 (by decide) (fun c_140 => ?_) (fun c_140 => ?_) | refine aw_ifeq hX (tgt := 147) dX8_look_140 (by decide) (fun c_140 => ?_) (fun c_140 => ?_)
            · cases c_140
            · skip
              refine aw_iconst hX (v := nI 0) (by decide) dX8_look_143 ?_
              refine aw_goto hX (tgt := 154) dX8_look_144 (by decide) ?_
              refine aw_iast hX dX8_look_154 rfl (fun _ => rfl) (by decide) (by omega) ?_
              refine aw_aload_0 hX dX8_look_155 ?_
              refine ag_X8_looks hX fl_X8_110 dX8_look_156 ?_
              try simp only [sN_N, sN_A, sN_L, sN_R, sA_N, sA_A, sA_L, sA_R, sL_N, sL_A, sL_L, sL_R, sR_N, sR_A, sR_L, sR_R, reduceIte]
              refine aw_iconst hX (v := nI 1) (by decide) dX8_look_159 ?_
              first | with_reducible refine aw_isubN hX (by omega) dX8_look_160 ?_ | refine aw_isub hX dX8_look_160 ?_
              refine aw_finI (hR _ _ dX8_look_161) ?_ ?_
              · first | rfl | simp
              · rfl
        · exact absurd c_47 (by omega)
      · exact absurd h c_35
    · cases c_22
set_option maxHeartbeats 4000000 in
set_option maxRecDepth 100000 in
theorem m_X8_look_false (d : Nat) (G : GT) (S : St) (h13 : S.1 13 = 0) (i : Nat) (hi0 : i < S.1 18) (h18 : S.1 18 ≤ 12) (dy : Int32) (hdy : inR dy (nI 0) (nI (S.1 14)) = true) (h : ofM S i 8 ≤ dy) (hl : S.1 19 < 30) : rX8_look G (d + 3) [.ref (gad G 8), .int (nI i), .int dy, .int (bI false)] S (some (.int (nI (S.1 19)))) (sA (sN (sA (sA (sA (sA S 53 (4 * S.1 19) (nI i)) 53 (4 * S.1 19 + 1) dy) 53 (4 * S.1 19 + 2) (bI false)) 53 (4 * S.1 19 + 3) (nI (S.1 14))) 19 (S.1 19 + 1)) 52 (11 * i + 10) (ofM S i 10)) := by
  have hi : i < 12 := by omega
  refine runs_I (d := (d + 2)) (by decide) (Nat.le_of_ble_eq_true rfl) (fun X (hX : XC X G (d + 2) RX8 cX8_look 4) hR => ?_)
  show AW X G 0 [.ref (gad G 8), .int (nI i), .int dy, .int (bI false)] [] S
  refine aw_aload_0 hX dX8_look_0 ?_
  refine aw_iconst hX (v := nI 0) (by decide) dX8_look_1 ?_
  refine ap_X8_thrown hX fl_X8_57 dX8_look_2 ?_
  refine aw_S (sN_self h13) ?_
  refine aw_aload_0 hX dX8_look_5 ?_
  refine aw_iload_1 hX dX8_look_6 ?_
  refine cv_X8_isFlue hX ml_X8_96 dX8_look_7 (m_X8_isFlue _ G S _ true h18 (hasB_t hi0 (by omega))) (Nat.le_of_ble_eq_true rfl) ?_
  first | with_reducible refine aw_ifeqB hX (tgt := 25) dX8_look_10 (by decide) (fun c_10 => ?_) (fun c_10 => ?_) | refine aw_ifeq hX (tgt := 25) dX8_look_10 (by decide) (fun c_10 => ?_) (fun c_10 => ?_)
  · cases c_10
  · skip
    refine aw_iload_2 hX dX8_look_13 ?_
    refine aw_iconst hX (v := nI 0) (by decide) dX8_look_14 ?_
    refine aw_aload_0 hX dX8_look_15 ?_
    refine ag_X8_today hX fl_X8_86 dX8_look_16 ?_
    refine cs_X8_in hX ml_X8_60 dX8_look_19 (m_X8_in_b _ G S _ _ _ true hdy) (Nat.le_of_ble_eq_true rfl) ?_
    first | with_reducible refine aw_ifneB hX (tgt := 27) dX8_look_22 (by decide) (fun c_22 => ?_) (fun c_22 => ?_) | refine aw_ifne hX (tgt := 27) dX8_look_22 (by decide) (fun c_22 => ?_) (fun c_22 => ?_)
    · skip
      refine aw_aload_0 hX dX8_look_27 ?_
      refine aw_iload_1 hX dX8_look_28 ?_
      refine aw_bipush hX (v := nI 8) (by decide) dX8_look_29 ?_
      refine cv_X8_of hX ml_X8_99 dX8_look_31 (m_X8_of _ G S i 8 hi (by decide)) (Nat.le_of_ble_eq_true rfl) ?_
      refine aw_iload_2 hX dX8_look_34 ?_
      first | with_reducible refine aw_icmpleN hX (tgt := 41) dX8_look_35 (by decide) (by omega) (by omega) (fun c_35 => ?_) (fun c_35 => ?_) | refine aw_jle hX (tgt := 41) dX8_look_35 (by decide) (fun c_35 => ?_) (fun c_35 => ?_)
      · skip
        refine aw_aload_0 hX dX8_look_41 ?_
        refine ag_X8_looks hX fl_X8_110 dX8_look_42 ?_
        refine aw_bipush hX (v := nI 30) (by decide) dX8_look_45 ?_
        first | with_reducible refine aw_icmpneN hX (tgt := 53) dX8_look_47 (by decide) (by omega) (by omega) (fun c_47 => ?_) (fun c_47 => ?_) | refine aw_icmpne hX (tgt := 53) dX8_look_47 (by decide) (fun c_47 => ?_) (fun c_47 => ?_)
        · skip
          refine aw_aload_0 hX dX8_look_53 ?_
          refine ag_X8_look hX fl_X8_31 dX8_look_54 ?_
          refine aw_iconst hX (v := nI 4) (by decide) dX8_look_57 ?_
          refine aw_aload_0 hX dX8_look_58 ?_
          refine ag_X8_looks hX fl_X8_110 dX8_look_59 ?_
          first | with_reducible refine aw_imulN hX dX8_look_62 ?_ | refine aw_imul hX dX8_look_62 ?_
          refine aw_iload_1 hX dX8_look_63 ?_
          refine aw_iast hX dX8_look_64 rfl (fun _ => rfl) (by decide) (by omega) ?_
          refine aw_aload_0 hX dX8_look_65 ?_
          refine ag_X8_look hX fl_X8_31 dX8_look_66 ?_
          try simp only [sN_N, sN_A, sN_L, sN_R, sA_N, sA_A, sA_L, sA_R, sL_N, sL_A, sL_L, sL_R, sR_N, sR_A, sR_L, sR_R, reduceIte]
          refine aw_iconst hX (v := nI 4) (by decide) dX8_look_69 ?_
          refine aw_aload_0 hX dX8_look_70 ?_
          refine ag_X8_looks hX fl_X8_110 dX8_look_71 ?_
          try simp only [sN_N, sN_A, sN_L, sN_R, sA_N, sA_A, sA_L, sA_R, sL_N, sL_A, sL_L, sL_R, sR_N, sR_A, sR_L, sR_R, reduceIte]
          first | with_reducible refine aw_imulN hX dX8_look_74 ?_ | refine aw_imul hX dX8_look_74 ?_
          refine aw_iconst hX (v := nI 1) (by decide) dX8_look_75 ?_
          first | with_reducible refine aw_iaddN hX dX8_look_76 ?_ | refine aw_iadd hX dX8_look_76 ?_
          refine aw_iload_2 hX dX8_look_77 ?_
          refine aw_iast hX dX8_look_78 rfl (fun _ => rfl) (by decide) (by omega) ?_
          refine aw_aload_0 hX dX8_look_79 ?_
          refine ag_X8_look hX fl_X8_31 dX8_look_80 ?_
          try simp only [sN_N, sN_A, sN_L, sN_R, sA_N, sA_A, sA_L, sA_R, sL_N, sL_A, sL_L, sL_R, sR_N, sR_A, sR_L, sR_R, reduceIte]
          refine aw_iconst hX (v := nI 4) (by decide) dX8_look_83 ?_
          refine aw_aload_0 hX dX8_look_84 ?_
          refine ag_X8_looks hX fl_X8_110 dX8_look_85 ?_
          try simp only [sN_N, sN_A, sN_L, sN_R, sA_N, sA_A, sA_L, sA_R, sL_N, sL_A, sL_L, sL_R, sR_N, sR_A, sR_L, sR_R, reduceIte]
          first | with_reducible refine aw_imulN hX dX8_look_88 ?_ | refine aw_imul hX dX8_look_88 ?_
          refine aw_iconst hX (v := nI 2) (by decide) dX8_look_89 ?_
          first | with_reducible refine aw_iaddN hX dX8_look_90 ?_ | refine aw_iadd hX dX8_look_90 ?_
          refine aw_iload_3 hX dX8_look_91 ?_
          first | with_reducible refine aw_ifeqB hX (tgt := 99) dX8_look_92 (by decide) (fun c_92 => ?_) (fun c_92 => ?_) | refine aw_ifeq hX (tgt := 99) dX8_look_92 (by decide) (fun c_92 => ?_) (fun c_92 => ?_)
          · skip
            refine aw_iconst hX (v := nI 0) (by decide) dX8_look_99 ?_
            refine aw_iast hX dX8_look_100 rfl (fun _ => rfl) (by decide) (by omega) ?_
            refine aw_aload_0 hX dX8_look_101 ?_
            refine ag_X8_look hX fl_X8_31 dX8_look_102 ?_
            try simp only [sN_N, sN_A, sN_L, sN_R, sA_N, sA_A, sA_L, sA_R, sL_N, sL_A, sL_L, sL_R, sR_N, sR_A, sR_L, sR_R, reduceIte]
            refine aw_iconst hX (v := nI 4) (by decide) dX8_look_105 ?_
            refine aw_aload_0 hX dX8_look_106 ?_
            refine ag_X8_looks hX fl_X8_110 dX8_look_107 ?_
            try simp only [sN_N, sN_A, sN_L, sN_R, sA_N, sA_A, sA_L, sA_R, sL_N, sL_A, sL_L, sL_R, sR_N, sR_A, sR_L, sR_R, reduceIte]
            first | with_reducible refine aw_imulN hX dX8_look_110 ?_ | refine aw_imul hX dX8_look_110 ?_
            refine aw_iconst hX (v := nI 3) (by decide) dX8_look_111 ?_
            first | with_reducible refine aw_iaddN hX dX8_look_112 ?_ | refine aw_iadd hX dX8_look_112 ?_
            refine aw_aload_0 hX dX8_look_113 ?_
            refine ag_X8_today hX fl_X8_86 dX8_look_114 ?_
            try simp only [sN_N, sN_A, sN_L, sN_R, sA_N, sA_A, sA_L, sA_R, sL_N, sL_A, sL_L, sL_R, sR_N, sR_A, sR_L, sR_R, reduceIte]
            refine aw_iast hX dX8_look_117 rfl (fun _ => rfl) (by decide) (by omega) ?_
            refine aw_aload_0 hX dX8_look_118 ?_
            refine aw_dup hX rfl dX8_look_119 ?_
            refine ag_X8_looks hX fl_X8_110 dX8_look_120 ?_
            try simp only [sN_N, sN_A, sN_L, sN_R, sA_N, sA_A, sA_L, sA_R, sL_N, sL_A, sL_L, sL_R, sR_N, sR_A, sR_L, sR_R, reduceIte]
            refine aw_iconst hX (v := nI 1) (by decide) dX8_look_123 ?_
            first | with_reducible refine aw_iaddN hX dX8_look_124 ?_ | refine aw_iadd hX dX8_look_124 ?_
            refine ap_X8_looks hX fl_X8_110 dX8_look_125 ?_
            refine aw_aload_0 hX dX8_look_128 ?_
            refine ag_X8_flue hX fl_X8_28 dX8_look_129 ?_
            try simp only [sN_N, sN_A, sN_L, sN_R, sA_N, sA_A, sA_L, sA_R, sL_N, sL_A, sL_L, sL_R, sR_N, sR_A, sR_L, sR_R, reduceIte]
            refine aw_bipush hX (v := nI 11) (by decide) dX8_look_132 ?_
            refine aw_iload_1 hX dX8_look_134 ?_
            first | with_reducible refine aw_imulN hX dX8_look_135 ?_ | refine aw_imul hX dX8_look_135 ?_
            refine aw_bipush hX (v := nI 10) (by decide) dX8_look_136 ?_
            first | with_reducible refine aw_iaddN hX dX8_look_138 ?_ | refine aw_iadd hX dX8_look_138 ?_
            refine aw_iload_3 hX dX8_look_139 ?_
            first | with_reducible refine aw_ifeqB hX (tgt := 147) dX8_look_140 (by decide) (fun c_140 => ?_) (fun c_140 => ?_) | refine aw_ifeq hX (tgt := 147) dX8_look_140 (by decide) (fun c_140 => ?_) (fun c_140 => ?_)
            · skip
              refine aw_aload_0 hX dX8_look_147 ?_
              refine aw_iload_1 hX dX8_look_148 ?_
              refine aw_bipush hX (v := nI 10) (by decide) dX8_look_149 ?_
              refine cv_X8_of hX ml_X8_99 dX8_look_151 (m_X8_of _ G (sN (sA (sA (sA (sA S 53 (4 * S.1 19) (nI i)) 53 (4 * S.1 19 + 1) dy) 53 (4 * S.1 19 + 2) (bI false)) 53 (4 * S.1 19 + 3) (nI (S.1 14))) 19 (S.1 19 + 1)) i 10 hi (by decide)) (Nat.le_of_ble_eq_true rfl) ?_
              refine aw_iast hX dX8_look_154 rfl (fun _ => rfl) (by decide) (by omega) ?_
              refine aw_aload_0 hX dX8_look_155 ?_
              refine ag_X8_looks hX fl_X8_110 dX8_look_156 ?_
              try simp only [sN_N, sN_A, sN_L, sN_R, sA_N, sA_A, sA_L, sA_R, sL_N, sL_A, sL_L, sL_R, sR_N, sR_A, sR_L, sR_R, reduceIte]
              refine aw_iconst hX (v := nI 1) (by decide) dX8_look_159 ?_
              first | with_reducible refine aw_isubN hX (by omega) dX8_look_160 ?_ | refine aw_isub hX dX8_look_160 ?_
              refine aw_finI (hR _ _ dX8_look_161) ?_ ?_
              · first | rfl | simp
              · rfl
            · cases c_140
          · cases c_92
        · exact absurd c_47 (by omega)
      · exact absurd h c_35
    · cases c_22
set_option maxHeartbeats 4000000 in
set_option maxRecDepth 100000 in
theorem m_X8_fire_state (d : Nat) (G : GT) (S : St) (h13 : S.1 13 = 0) (i : Nat) (hi0 : i < S.1 18) (h18 : S.1 18 ≤ 12) (dy : Int32) (hdy : inR dy (nI 0) (nI (S.1 14)) = true) (h : ¬ ofM S i 8 ≤ dy) : rX8_fire G (d + 3) [.ref (gad G 8), .int (nI i), .int dy] S (some (.int (-2))) S := by
  have hi : i < 12 := by omega
  refine runs_I (d := (d + 2)) (by decide) (Nat.le_of_ble_eq_true rfl) (fun X (hX : XC X G (d + 2) RX8 cX8_fire 3) hR => ?_)
  show AW X G 0 [.ref (gad G 8), .int (nI i), .int dy] [] S
  refine aw_aload_0 hX dX8_fire_0 ?_
  refine aw_iconst hX (v := nI 0) (by decide) dX8_fire_1 ?_
  refine ap_X8_thrown hX fl_X8_57 dX8_fire_2 ?_
  refine aw_S (sN_self h13) ?_
  refine aw_aload_0 hX dX8_fire_5 ?_
  refine aw_iload_1 hX dX8_fire_6 ?_
  refine cv_X8_isFlue hX ml_X8_96 dX8_fire_7 (m_X8_isFlue _ G S _ true h18 (hasB_t hi0 (by omega))) (Nat.le_of_ble_eq_true rfl) ?_
  first | with_reducible refine aw_ifeqB hX (tgt := 25) dX8_fire_10 (by decide) (fun c_10 => ?_) (fun c_10 => ?_) | refine aw_ifeq hX (tgt := 25) dX8_fire_10 (by decide) (fun c_10 => ?_) (fun c_10 => ?_)
  · cases c_10
  · skip
    refine aw_iload_2 hX dX8_fire_13 ?_
    refine aw_iconst hX (v := nI 0) (by decide) dX8_fire_14 ?_
    refine aw_aload_0 hX dX8_fire_15 ?_
    refine ag_X8_today hX fl_X8_86 dX8_fire_16 ?_
    refine cs_X8_in hX ml_X8_60 dX8_fire_19 (m_X8_in_b _ G S _ _ _ true hdy) (Nat.le_of_ble_eq_true rfl) ?_
    first | with_reducible refine aw_ifneB hX (tgt := 27) dX8_fire_22 (by decide) (fun c_22 => ?_) (fun c_22 => ?_) | refine aw_ifne hX (tgt := 27) dX8_fire_22 (by decide) (fun c_22 => ?_) (fun c_22 => ?_)
    · skip
      refine aw_aload_0 hX dX8_fire_27 ?_
      refine aw_iload_1 hX dX8_fire_28 ?_
      refine aw_bipush hX (v := nI 8) (by decide) dX8_fire_29 ?_
      refine cv_X8_of hX ml_X8_99 dX8_fire_31 (m_X8_of _ G S i 8 hi (by decide)) (Nat.le_of_ble_eq_true rfl) ?_
      refine aw_iload_2 hX dX8_fire_34 ?_
      first | with_reducible refine aw_icmpleN hX (tgt := 41) dX8_fire_35 (by decide) (by omega) (by omega) (fun c_35 => ?_) (fun c_35 => ?_) | refine aw_jle hX (tgt := 41) dX8_fire_35 (by decide) (fun c_35 => ?_) (fun c_35 => ?_)
      · exact absurd c_35 h
      · skip
        refine aw_bipush hX (v := (-2)) (by decide) dX8_fire_38 ?_
        refine aw_finI (hR _ _ dX8_fire_40) ?_ ?_
        · rfl
        · rfl
    · cases c_22
set_option maxHeartbeats 4000000 in
set_option maxRecDepth 100000 in
theorem m_X8_fire_full (d : Nat) (G : GT) (S : St) (h13 : S.1 13 = 0) (i : Nat) (hi0 : i < S.1 18) (h18 : S.1 18 ≤ 12) (dy : Int32) (hdy : inR dy (nI 0) (nI (S.1 14)) = true) (h : ofM S i 8 ≤ dy) (hl : S.1 20 = 10) : rX8_fire G (d + 3) [.ref (gad G 8), .int (nI i), .int dy] S (some (.int (-3))) S := by
  have hi : i < 12 := by omega
  refine runs_I (d := (d + 2)) (by decide) (Nat.le_of_ble_eq_true rfl) (fun X (hX : XC X G (d + 2) RX8 cX8_fire 3) hR => ?_)
  show AW X G 0 [.ref (gad G 8), .int (nI i), .int dy] [] S
  refine aw_aload_0 hX dX8_fire_0 ?_
  refine aw_iconst hX (v := nI 0) (by decide) dX8_fire_1 ?_
  refine ap_X8_thrown hX fl_X8_57 dX8_fire_2 ?_
  refine aw_S (sN_self h13) ?_
  refine aw_aload_0 hX dX8_fire_5 ?_
  refine aw_iload_1 hX dX8_fire_6 ?_
  refine cv_X8_isFlue hX ml_X8_96 dX8_fire_7 (m_X8_isFlue _ G S _ true h18 (hasB_t hi0 (by omega))) (Nat.le_of_ble_eq_true rfl) ?_
  first | with_reducible refine aw_ifeqB hX (tgt := 25) dX8_fire_10 (by decide) (fun c_10 => ?_) (fun c_10 => ?_) | refine aw_ifeq hX (tgt := 25) dX8_fire_10 (by decide) (fun c_10 => ?_) (fun c_10 => ?_)
  · cases c_10
  · skip
    refine aw_iload_2 hX dX8_fire_13 ?_
    refine aw_iconst hX (v := nI 0) (by decide) dX8_fire_14 ?_
    refine aw_aload_0 hX dX8_fire_15 ?_
    refine ag_X8_today hX fl_X8_86 dX8_fire_16 ?_
    refine cs_X8_in hX ml_X8_60 dX8_fire_19 (m_X8_in_b _ G S _ _ _ true hdy) (Nat.le_of_ble_eq_true rfl) ?_
    first | with_reducible refine aw_ifneB hX (tgt := 27) dX8_fire_22 (by decide) (fun c_22 => ?_) (fun c_22 => ?_) | refine aw_ifne hX (tgt := 27) dX8_fire_22 (by decide) (fun c_22 => ?_) (fun c_22 => ?_)
    · skip
      refine aw_aload_0 hX dX8_fire_27 ?_
      refine aw_iload_1 hX dX8_fire_28 ?_
      refine aw_bipush hX (v := nI 8) (by decide) dX8_fire_29 ?_
      refine cv_X8_of hX ml_X8_99 dX8_fire_31 (m_X8_of _ G S i 8 hi (by decide)) (Nat.le_of_ble_eq_true rfl) ?_
      refine aw_iload_2 hX dX8_fire_34 ?_
      first | with_reducible refine aw_icmpleN hX (tgt := 41) dX8_fire_35 (by decide) (by omega) (by omega) (fun c_35 => ?_) (fun c_35 => ?_) | refine aw_jle hX (tgt := 41) dX8_fire_35 (by decide) (fun c_35 => ?_) (fun c_35 => ?_)
      · skip
        refine aw_aload_0 hX dX8_fire_41 ?_
        refine ag_X8_fires hX fl_X8_129 dX8_fire_42 ?_
        refine aw_bipush hX (v := nI 10) (by decide) dX8_fire_45 ?_
        first | with_reducible refine aw_icmpneN hX (tgt := 53) dX8_fire_47 (by decide) (by omega) (by omega) (fun c_47 => ?_) (fun c_47 => ?_) | refine aw_icmpne hX (tgt := 53) dX8_fire_47 (by decide) (fun c_47 => ?_) (fun c_47 => ?_)
        · exact absurd hl c_47
        · skip
          refine aw_bipush hX (v := (-3)) (by decide) dX8_fire_50 ?_
          refine aw_finI (hR _ _ dX8_fire_52) ?_ ?_
          · rfl
          · rfl
      · exact absurd h c_35
    · cases c_22
set_option maxHeartbeats 4000000 in
set_option maxRecDepth 100000 in
theorem m_X8_fire_ok (d : Nat) (G : GT) (S : St) (h13 : S.1 13 = 0) (i : Nat) (hi0 : i < S.1 18) (h18 : S.1 18 ≤ 12) (dy : Int32) (hdy : inR dy (nI 0) (nI (S.1 14)) = true) (h : ofM S i 8 ≤ dy) (hl : S.1 20 < 10) : rX8_fire G (d + 3) [.ref (gad G 8), .int (nI i), .int dy] S (some (.int (nI (S.1 20)))) (sN (sA (sA S 54 (2 * S.1 20) (nI i)) 54 (2 * S.1 20 + 1) dy) 20 (S.1 20 + 1)) := by
  have hi : i < 12 := by omega
  refine runs_I (d := (d + 2)) (by decide) (Nat.le_of_ble_eq_true rfl) (fun X (hX : XC X G (d + 2) RX8 cX8_fire 3) hR => ?_)
  show AW X G 0 [.ref (gad G 8), .int (nI i), .int dy] [] S
  refine aw_aload_0 hX dX8_fire_0 ?_
  refine aw_iconst hX (v := nI 0) (by decide) dX8_fire_1 ?_
  refine ap_X8_thrown hX fl_X8_57 dX8_fire_2 ?_
  refine aw_S (sN_self h13) ?_
  refine aw_aload_0 hX dX8_fire_5 ?_
  refine aw_iload_1 hX dX8_fire_6 ?_
  refine cv_X8_isFlue hX ml_X8_96 dX8_fire_7 (m_X8_isFlue _ G S _ true h18 (hasB_t hi0 (by omega))) (Nat.le_of_ble_eq_true rfl) ?_
  first | with_reducible refine aw_ifeqB hX (tgt := 25) dX8_fire_10 (by decide) (fun c_10 => ?_) (fun c_10 => ?_) | refine aw_ifeq hX (tgt := 25) dX8_fire_10 (by decide) (fun c_10 => ?_) (fun c_10 => ?_)
  · cases c_10
  · skip
    refine aw_iload_2 hX dX8_fire_13 ?_
    refine aw_iconst hX (v := nI 0) (by decide) dX8_fire_14 ?_
    refine aw_aload_0 hX dX8_fire_15 ?_
    refine ag_X8_today hX fl_X8_86 dX8_fire_16 ?_
    refine cs_X8_in hX ml_X8_60 dX8_fire_19 (m_X8_in_b _ G S _ _ _ true hdy) (Nat.le_of_ble_eq_true rfl) ?_
    first | with_reducible refine aw_ifneB hX (tgt := 27) dX8_fire_22 (by decide) (fun c_22 => ?_) (fun c_22 => ?_) | refine aw_ifne hX (tgt := 27) dX8_fire_22 (by decide) (fun c_22 => ?_) (fun c_22 => ?_)
    · skip
      refine aw_aload_0 hX dX8_fire_27 ?_
      refine aw_iload_1 hX dX8_fire_28 ?_
      refine aw_bipush hX (v := nI 8) (by decide) dX8_fire_29 ?_
      refine cv_X8_of hX ml_X8_99 dX8_fire_31 (m_X8_of _ G S i 8 hi (by decide)) (Nat.le_of_ble_eq_true rfl) ?_
      refine aw_iload_2 hX dX8_fire_34 ?_
      first | with_reducible refine aw_icmpleN hX (tgt := 41) dX8_fire_35 (by decide) (by omega) (by omega) (fun c_35 => ?_) (fun c_35 => ?_) | refine aw_jle hX (tgt := 41) dX8_fire_35 (by decide) (fun c_35 => ?_) (fun c_35 => ?_)
      · skip
        refine aw_aload_0 hX dX8_fire_41 ?_
        refine ag_X8_fires hX fl_X8_129 dX8_fire_42 ?_
        refine aw_bipush hX (v := nI 10) (by decide) dX8_fire_45 ?_
        first | with_reducible refine aw_icmpneN hX (tgt := 53) dX8_fire_47 (by decide) (by omega) (by omega) (fun c_47 => ?_) (fun c_47 => ?_) | refine aw_icmpne hX (tgt := 53) dX8_fire_47 (by decide) (fun c_47 => ?_) (fun c_47 => ?_)
        · skip
          refine aw_aload_0 hX dX8_fire_53 ?_
          refine ag_X8_fire hX fl_X8_34 dX8_fire_54 ?_
          refine aw_iconst hX (v := nI 2) (by decide) dX8_fire_57 ?_
          refine aw_aload_0 hX dX8_fire_58 ?_
          refine ag_X8_fires hX fl_X8_129 dX8_fire_59 ?_
          first | with_reducible refine aw_imulN hX dX8_fire_62 ?_ | refine aw_imul hX dX8_fire_62 ?_
          refine aw_iload_1 hX dX8_fire_63 ?_
          refine aw_iast hX dX8_fire_64 rfl (fun _ => rfl) (by decide) (by omega) ?_
          refine aw_aload_0 hX dX8_fire_65 ?_
          refine ag_X8_fire hX fl_X8_34 dX8_fire_66 ?_
          try simp only [sN_N, sN_A, sN_L, sN_R, sA_N, sA_A, sA_L, sA_R, sL_N, sL_A, sL_L, sL_R, sR_N, sR_A, sR_L, sR_R, reduceIte]
          refine aw_iconst hX (v := nI 2) (by decide) dX8_fire_69 ?_
          refine aw_aload_0 hX dX8_fire_70 ?_
          refine ag_X8_fires hX fl_X8_129 dX8_fire_71 ?_
          try simp only [sN_N, sN_A, sN_L, sN_R, sA_N, sA_A, sA_L, sA_R, sL_N, sL_A, sL_L, sL_R, sR_N, sR_A, sR_L, sR_R, reduceIte]
          first | with_reducible refine aw_imulN hX dX8_fire_74 ?_ | refine aw_imul hX dX8_fire_74 ?_
          refine aw_iconst hX (v := nI 1) (by decide) dX8_fire_75 ?_
          first | with_reducible refine aw_iaddN hX dX8_fire_76 ?_ | refine aw_iadd hX dX8_fire_76 ?_
          refine aw_iload_2 hX dX8_fire_77 ?_
          refine aw_iast hX dX8_fire_78 rfl (fun _ => rfl) (by decide) (by omega) ?_
          refine aw_aload_0 hX dX8_fire_79 ?_
          refine aw_dup hX rfl dX8_fire_80 ?_
          refine ag_X8_fires hX fl_X8_129 dX8_fire_81 ?_
          try simp only [sN_N, sN_A, sN_L, sN_R, sA_N, sA_A, sA_L, sA_R, sL_N, sL_A, sL_L, sL_R, sR_N, sR_A, sR_L, sR_R, reduceIte]
          refine aw_iconst hX (v := nI 1) (by decide) dX8_fire_84 ?_
          first | with_reducible refine aw_iaddN hX dX8_fire_85 ?_ | refine aw_iadd hX dX8_fire_85 ?_
          refine ap_X8_fires hX fl_X8_129 dX8_fire_86 ?_
          refine aw_aload_0 hX dX8_fire_89 ?_
          refine ag_X8_fires hX fl_X8_129 dX8_fire_90 ?_
          try simp only [sN_N, sN_A, sN_L, sN_R, sA_N, sA_A, sA_L, sA_R, sL_N, sL_A, sL_L, sL_R, sR_N, sR_A, sR_L, sR_R, reduceIte]
          refine aw_iconst hX (v := nI 1) (by decide) dX8_fire_93 ?_
          first | with_reducible refine aw_isubN hX (by omega) dX8_fire_94 ?_ | refine aw_isub hX dX8_fire_94 ?_
          refine aw_finI (hR _ _ dX8_fire_95) ?_ ?_
          · first | rfl | simp
          · rfl
        · exact absurd c_47 (by omega)
      · exact absurd h c_35
    · cases c_22
set_option maxHeartbeats 4000000 in
set_option maxRecDepth 100000 in
theorem m_X8_back_bad (d : Nat) (G : GT) (S : St) (h13 : S.1 13 = 0) (f w : Int32) (h20 : S.1 20 ≤ 10) (h : (hasB f (S.1 20) && inR w (nI 0) (nI 5)) = false) : rX8_back G (d + 2) [.ref (gad G 8), .int f, .int w] S (some (.int (-1))) S := by
  refine runs_I (d := (d + 1)) (by decide) (Nat.le_of_ble_eq_true rfl) (fun X (hX : XC X G (d + 1) RX8 cX8_back 8) hR => ?_)
  show AW X G 0 [.ref (gad G 8), .int f, .int w, .null, .null, .null, .null, .null] [] S
  refine aw_aload_0 hX dX8_back_0 ?_
  refine aw_iconst hX (v := nI 0) (by decide) dX8_back_1 ?_
  refine ap_X8_thrown hX fl_X8_57 dX8_back_2 ?_
  refine aw_S (sN_self h13) ?_
  refine aw_iload_1 hX dX8_back_5 ?_
  refine aw_iconst hX (v := nI 0) (by decide) dX8_back_6 ?_
  refine aw_aload_0 hX dX8_back_7 ?_
  refine ag_X8_fires hX fl_X8_129 dX8_back_8 ?_
  refine aw_iconst hX (v := nI 1) (by decide) dX8_back_11 ?_
  refine aw_isub hX dX8_back_12 ?_
  refine cs_X8_in hX ml_X8_60 dX8_back_13 (m_X8_in_b _ G S _ _ _ _ (inR_m1 (by omega))) (Nat.le_of_ble_eq_true rfl) ?_
  first | with_reducible refine aw_ifeqB hX (tgt := 28) dX8_back_16 (by decide) (fun c_16 => ?_) (fun c_16 => ?_) | refine aw_ifeq hX (tgt := 28) dX8_back_16 (by decide) (fun c_16 => ?_) (fun c_16 => ?_)
  · skip
    refine aw_iconst hX (v := (-1)) (by decide) dX8_back_28 ?_
    refine aw_finI (hR _ _ dX8_back_29) ?_ ?_
    · rfl
    · rfl
  · skip
    refine aw_iload_2 hX dX8_back_19 ?_
    refine aw_iconst hX (v := nI 0) (by decide) dX8_back_20 ?_
    refine aw_iconst hX (v := nI 5) (by decide) dX8_back_21 ?_
    refine cs_X8_in hX ml_X8_60 dX8_back_22 (m_X8_in _ G S _ _ _) (Nat.le_of_ble_eq_true rfl) ?_
    first | with_reducible refine aw_ifneB hX (tgt := 30) dX8_back_25 (by decide) (fun c_25 => ?_) (fun c_25 => ?_) | refine aw_ifne hX (tgt := 30) dX8_back_25 (by decide) (fun c_25 => ?_) (fun c_25 => ?_)
    · simp [c_16, c_25] at h
    · skip
      refine aw_iconst hX (v := (-1)) (by decide) dX8_back_28 ?_
      refine aw_finI (hR _ _ dX8_back_29) ?_ ?_
      · rfl
      · rfl
set_option maxHeartbeats 4000000 in
set_option maxRecDepth 100000 in
theorem m_X8_back_0 (d : Nat) (G : GT) (S : St) (h13 : S.1 13 = 0) (j i : Nat) (hj : j < S.1 20) (h20 : S.1 20 ≤ 10) (hi : i < 12) (hf : S.2.1 54 (2 * j) = nI i) (h21 : S.1 21 ≤ 100)  : rX8_back G (d + 2) [.ref (gad G 8), .int (nI j), .int (nI 0)] S (some (.int (S.2.1 54 (2 * j)))) S := by
  refine runs_I (d := (d + 1)) (by decide) (Nat.le_of_ble_eq_true rfl) (fun X (hX : XC X G (d + 1) RX8 cX8_back 8) hR => ?_)
  show AW X G 0 [.ref (gad G 8), .int (nI j), .int (nI 0), .null, .null, .null, .null, .null] [] S
  have loop : ∀ n k : Nat, k + n = S.1 21 → ∀ sw ha : Int32, sw = swL S (nI i) (S.2.1 54 (2 * j + 1)) (ofM S i 8) k → ha = swhL S (nI i) (S.2.1 54 (2 * j + 1)) k → AW X G 67 [.ref (gad G 8), .int (nI j), .int (nI 0), .int (nI i), .int (S.2.1 54 (2 * j + 1)), .int sw, .int ha, .int (nI k)] [] S := by
    intro n
    induction n with
    | zero =>
      intro k hk sw ha hsw hha
      obtain rfl : k = S.1 21 := by omega
      refine aw_iload_7 hX dX8_back_67 ?_
      refine aw_aload_0 hX dX8_back_69 ?_
      refine ag_X8_sweeps hX fl_X8_126 dX8_back_70 ?_
      first | with_reducible refine aw_icmpgeN hX (tgt := 137) dX8_back_73 (by decide) (by omega) (by omega) (fun c_73 => ?_) (fun c_73 => ?_) | refine aw_jge hX (tgt := 137) dX8_back_73 (by decide) (fun c_73 => ?_) (fun c_73 => ?_)
      · skip
        refine aw_iload_2 hX dX8_back_137 ?_
        refine aw_tabIn hX (x := nI 0) (off := 34) (tgt := 172) dX8_back_138 (by decide) (by decide) (by decide) (by decide) ?_
        refine aw_iload_3 hX dX8_back_172 ?_
        refine aw_finI (hR _ _ dX8_back_173) ?_ ?_
        · exact hf.symm
        · rfl
      · exact absurd c_73 (by omega)
    | succ n ih =>
      intro k hk sw ha hsw hha
      refine aw_iload_7 hX dX8_back_67 ?_
      refine aw_aload_0 hX dX8_back_69 ?_
      refine ag_X8_sweeps hX fl_X8_126 dX8_back_70 ?_
      first | with_reducible refine aw_icmpgeN hX (tgt := 137) dX8_back_73 (by decide) (by omega) (by omega) (fun c_73 => ?_) (fun c_73 => ?_) | refine aw_jge hX (tgt := 137) dX8_back_73 (by decide) (fun c_73 => ?_) (fun c_73 => ?_)
      · exact absurd c_73 (by omega)
      · skip
        refine aw_aload_0 hX dX8_back_76 ?_
        refine ag_X8_sweep hX fl_X8_37 dX8_back_77 ?_
        refine aw_iconst hX (v := nI 4) (by decide) dX8_back_80 ?_
        refine aw_iload_7 hX dX8_back_81 ?_
        first | with_reducible refine aw_imulN hX dX8_back_83 ?_ | refine aw_imul hX dX8_back_83 ?_
        refine aw_iald hX dX8_back_84 rfl (by decide) (by omega) ?_
        refine aw_iload_3 hX dX8_back_85 ?_
        first | with_reducible refine aw_icmpneN hX (tgt := 131) dX8_back_86 (by decide) (by omega) (by omega) (fun c_86 => ?_) (fun c_86 => ?_) | refine aw_icmpne hX (tgt := 131) dX8_back_86 (by decide) (fun c_86 => ?_) (fun c_86 => ?_)
        · skip
          first | with_reducible refine aw_iinc_7N hX rfl (by decide) dX8_back_131 ?_ | refine aw_iinc_7 hX rfl (by decide) dX8_back_131 ?_
          refine aw_goto hX (tgt := 67) dX8_back_134 (by decide) ?_
          exact ih (k + 1) (by omega) _ _ (by simp [swL, laL, c_73, c_86]; try exact hsw) (by simp [swhL, laL, c_73, c_86]; try exact hha)
        · skip
          refine aw_aload_0 hX dX8_back_89 ?_
          refine ag_X8_sweep hX fl_X8_37 dX8_back_90 ?_
          refine aw_iconst hX (v := nI 4) (by decide) dX8_back_93 ?_
          refine aw_iload_7 hX dX8_back_94 ?_
          first | with_reducible refine aw_imulN hX dX8_back_96 ?_ | refine aw_imul hX dX8_back_96 ?_
          refine aw_iconst hX (v := nI 1) (by decide) dX8_back_97 ?_
          first | with_reducible refine aw_iaddN hX dX8_back_98 ?_ | refine aw_iadd hX dX8_back_98 ?_
          refine aw_iald hX dX8_back_99 rfl (by decide) (by omega) ?_
          refine aw_iload_4 hX dX8_back_100 ?_
          first | with_reducible refine aw_icmpgtN hX (tgt := 131) dX8_back_102 (by decide) (by omega) (by omega) (fun c_102 => ?_) (fun c_102 => ?_) | refine aw_jgt hX (tgt := 131) dX8_back_102 (by decide) (fun c_102 => ?_) (fun c_102 => ?_)
          · skip
            first | with_reducible refine aw_iinc_7N hX rfl (by decide) dX8_back_131 ?_ | refine aw_iinc_7 hX rfl (by decide) dX8_back_131 ?_
            refine aw_goto hX (tgt := 67) dX8_back_134 (by decide) ?_
            exact ih (k + 1) (by omega) _ _ (by simp [swL, laL, c_73, c_86, c_102]; try exact hsw) (by simp [swhL, laL, c_73, c_86, c_102]; try exact hha)
          · skip
            refine aw_aload_0 hX dX8_back_105 ?_
            refine ag_X8_sweep hX fl_X8_37 dX8_back_106 ?_
            refine aw_iconst hX (v := nI 4) (by decide) dX8_back_109 ?_
            refine aw_iload_7 hX dX8_back_110 ?_
            first | with_reducible refine aw_imulN hX dX8_back_112 ?_ | refine aw_imul hX dX8_back_112 ?_
            refine aw_iconst hX (v := nI 1) (by decide) dX8_back_113 ?_
            first | with_reducible refine aw_iaddN hX dX8_back_114 ?_ | refine aw_iadd hX dX8_back_114 ?_
            refine aw_iald hX dX8_back_115 rfl (by decide) (by omega) ?_
            refine aw_istore_5 hX rfl (by decide) dX8_back_116 ?_
            refine aw_aload_0 hX dX8_back_118 ?_
            refine ag_X8_sweep hX fl_X8_37 dX8_back_119 ?_
            refine aw_iconst hX (v := nI 4) (by decide) dX8_back_122 ?_
            refine aw_iload_7 hX dX8_back_123 ?_
            first | with_reducible refine aw_imulN hX dX8_back_125 ?_ | refine aw_imul hX dX8_back_125 ?_
            refine aw_iconst hX (v := nI 2) (by decide) dX8_back_126 ?_
            first | with_reducible refine aw_iaddN hX dX8_back_127 ?_ | refine aw_iadd hX dX8_back_127 ?_
            refine aw_iald hX dX8_back_128 rfl (by decide) (by omega) ?_
            refine aw_istore_6 hX rfl (by decide) dX8_back_129 ?_
            first | with_reducible refine aw_iinc_7N hX rfl (by decide) dX8_back_131 ?_ | refine aw_iinc_7 hX rfl (by decide) dX8_back_131 ?_
            refine aw_goto hX (tgt := 67) dX8_back_134 (by decide) ?_
            exact ih (k + 1) (by omega) _ _ (by simp [swL, laL, c_73, c_86, c_102]; try exact hsw) (by simp [swhL, laL, c_73, c_86, c_102]; try exact hha)
  refine aw_aload_0 hX dX8_back_0 ?_
  refine aw_iconst hX (v := nI 0) (by decide) dX8_back_1 ?_
  refine ap_X8_thrown hX fl_X8_57 dX8_back_2 ?_
  refine aw_S (sN_self h13) ?_
  refine aw_iload_1 hX dX8_back_5 ?_
  refine aw_iconst hX (v := nI 0) (by decide) dX8_back_6 ?_
  refine aw_aload_0 hX dX8_back_7 ?_
  refine ag_X8_fires hX fl_X8_129 dX8_back_8 ?_
  refine aw_iconst hX (v := nI 1) (by decide) dX8_back_11 ?_
  refine aw_isub hX dX8_back_12 ?_
  refine cs_X8_in hX ml_X8_60 dX8_back_13 (m_X8_in_b _ G S _ _ _ true ((inR_m1 (by omega)).trans (hasB_t hj (by omega)))) (Nat.le_of_ble_eq_true rfl) ?_
  first | with_reducible refine aw_ifeqB hX (tgt := 28) dX8_back_16 (by decide) (fun c_16 => ?_) (fun c_16 => ?_) | refine aw_ifeq hX (tgt := 28) dX8_back_16 (by decide) (fun c_16 => ?_) (fun c_16 => ?_)
  · cases c_16
  · skip
    refine aw_iload_2 hX dX8_back_19 ?_
    refine aw_iconst hX (v := nI 0) (by decide) dX8_back_20 ?_
    refine aw_iconst hX (v := nI 5) (by decide) dX8_back_21 ?_
    refine cs_X8_in hX ml_X8_60 dX8_back_22 (m_X8_in_b _ G S _ _ _ true (by decide)) (Nat.le_of_ble_eq_true rfl) ?_
    first | with_reducible refine aw_ifneB hX (tgt := 30) dX8_back_25 (by decide) (fun c_25 => ?_) (fun c_25 => ?_) | refine aw_ifne hX (tgt := 30) dX8_back_25 (by decide) (fun c_25 => ?_) (fun c_25 => ?_)
    · skip
      refine aw_aload_0 hX dX8_back_30 ?_
      refine ag_X8_fire hX fl_X8_34 dX8_back_31 ?_
      refine aw_iconst hX (v := nI 2) (by decide) dX8_back_34 ?_
      refine aw_iload_1 hX dX8_back_35 ?_
      first | with_reducible refine aw_imulN hX dX8_back_36 ?_ | refine aw_imul hX dX8_back_36 ?_
      refine aw_iald hX dX8_back_37 rfl (by decide) (by omega) ?_
      refine aw_ti hf ?_
      refine aw_istore_3 hX rfl (by decide) dX8_back_38 ?_
      refine aw_aload_0 hX dX8_back_39 ?_
      refine ag_X8_fire hX fl_X8_34 dX8_back_40 ?_
      refine aw_iconst hX (v := nI 2) (by decide) dX8_back_43 ?_
      refine aw_iload_1 hX dX8_back_44 ?_
      first | with_reducible refine aw_imulN hX dX8_back_45 ?_ | refine aw_imul hX dX8_back_45 ?_
      refine aw_iconst hX (v := nI 1) (by decide) dX8_back_46 ?_
      first | with_reducible refine aw_iaddN hX dX8_back_47 ?_ | refine aw_iadd hX dX8_back_47 ?_
      refine aw_iald hX dX8_back_48 rfl (by decide) (by omega) ?_
      refine aw_istore_4 hX rfl (by decide) dX8_back_49 ?_
      refine aw_aload_0 hX dX8_back_51 ?_
      refine aw_iload_3 hX dX8_back_52 ?_
      refine aw_bipush hX (v := nI 8) (by decide) dX8_back_53 ?_
      refine cv_X8_of hX ml_X8_99 dX8_back_55 (m_X8_of _ G S i 8 hi (by decide)) (Nat.le_of_ble_eq_true rfl) ?_
      refine aw_istore_5 hX rfl (by decide) dX8_back_58 ?_
      refine aw_bipush hX (v := (-9)) (by decide) dX8_back_60 ?_
      refine aw_istore_6 hX rfl (by decide) dX8_back_62 ?_
      refine aw_iconst hX (v := nI 0) (by decide) dX8_back_64 ?_
      refine aw_istore_7 hX rfl (by decide) dX8_back_65 ?_
      exact loop (S.1 21) 0 (by omega) _ _ rfl rfl
    · cases c_25
set_option maxHeartbeats 4000000 in
set_option maxRecDepth 100000 in
theorem m_X8_back_1 (d : Nat) (G : GT) (S : St) (h13 : S.1 13 = 0) (j i : Nat) (hj : j < S.1 20) (h20 : S.1 20 ≤ 10) (hi : i < 12) (hf : S.2.1 54 (2 * j) = nI i) (h21 : S.1 21 ≤ 100)  : rX8_back G (d + 2) [.ref (gad G 8), .int (nI j), .int (nI 1)] S (some (.int (S.2.1 54 (2 * j + 1)))) S := by
  refine runs_I (d := (d + 1)) (by decide) (Nat.le_of_ble_eq_true rfl) (fun X (hX : XC X G (d + 1) RX8 cX8_back 8) hR => ?_)
  show AW X G 0 [.ref (gad G 8), .int (nI j), .int (nI 1), .null, .null, .null, .null, .null] [] S
  have loop : ∀ n k : Nat, k + n = S.1 21 → ∀ sw ha : Int32, sw = swL S (nI i) (S.2.1 54 (2 * j + 1)) (ofM S i 8) k → ha = swhL S (nI i) (S.2.1 54 (2 * j + 1)) k → AW X G 67 [.ref (gad G 8), .int (nI j), .int (nI 1), .int (nI i), .int (S.2.1 54 (2 * j + 1)), .int sw, .int ha, .int (nI k)] [] S := by
    intro n
    induction n with
    | zero =>
      intro k hk sw ha hsw hha
      obtain rfl : k = S.1 21 := by omega
      refine aw_iload_7 hX dX8_back_67 ?_
      refine aw_aload_0 hX dX8_back_69 ?_
      refine ag_X8_sweeps hX fl_X8_126 dX8_back_70 ?_
      first | with_reducible refine aw_icmpgeN hX (tgt := 137) dX8_back_73 (by decide) (by omega) (by omega) (fun c_73 => ?_) (fun c_73 => ?_) | refine aw_jge hX (tgt := 137) dX8_back_73 (by decide) (fun c_73 => ?_) (fun c_73 => ?_)
      · skip
        refine aw_iload_2 hX dX8_back_137 ?_
        refine aw_tabIn hX (x := nI 1) (off := 36) (tgt := 174) dX8_back_138 (by decide) (by decide) (by decide) (by decide) ?_
        refine aw_iload_4 hX dX8_back_174 ?_
        refine aw_finI (hR _ _ dX8_back_176) ?_ ?_
        · rfl
        · rfl
      · exact absurd c_73 (by omega)
    | succ n ih =>
      intro k hk sw ha hsw hha
      refine aw_iload_7 hX dX8_back_67 ?_
      refine aw_aload_0 hX dX8_back_69 ?_
      refine ag_X8_sweeps hX fl_X8_126 dX8_back_70 ?_
      first | with_reducible refine aw_icmpgeN hX (tgt := 137) dX8_back_73 (by decide) (by omega) (by omega) (fun c_73 => ?_) (fun c_73 => ?_) | refine aw_jge hX (tgt := 137) dX8_back_73 (by decide) (fun c_73 => ?_) (fun c_73 => ?_)
      · exact absurd c_73 (by omega)
      · skip
        refine aw_aload_0 hX dX8_back_76 ?_
        refine ag_X8_sweep hX fl_X8_37 dX8_back_77 ?_
        refine aw_iconst hX (v := nI 4) (by decide) dX8_back_80 ?_
        refine aw_iload_7 hX dX8_back_81 ?_
        first | with_reducible refine aw_imulN hX dX8_back_83 ?_ | refine aw_imul hX dX8_back_83 ?_
        refine aw_iald hX dX8_back_84 rfl (by decide) (by omega) ?_
        refine aw_iload_3 hX dX8_back_85 ?_
        first | with_reducible refine aw_icmpneN hX (tgt := 131) dX8_back_86 (by decide) (by omega) (by omega) (fun c_86 => ?_) (fun c_86 => ?_) | refine aw_icmpne hX (tgt := 131) dX8_back_86 (by decide) (fun c_86 => ?_) (fun c_86 => ?_)
        · skip
          first | with_reducible refine aw_iinc_7N hX rfl (by decide) dX8_back_131 ?_ | refine aw_iinc_7 hX rfl (by decide) dX8_back_131 ?_
          refine aw_goto hX (tgt := 67) dX8_back_134 (by decide) ?_
          exact ih (k + 1) (by omega) _ _ (by simp [swL, laL, c_73, c_86]; try exact hsw) (by simp [swhL, laL, c_73, c_86]; try exact hha)
        · skip
          refine aw_aload_0 hX dX8_back_89 ?_
          refine ag_X8_sweep hX fl_X8_37 dX8_back_90 ?_
          refine aw_iconst hX (v := nI 4) (by decide) dX8_back_93 ?_
          refine aw_iload_7 hX dX8_back_94 ?_
          first | with_reducible refine aw_imulN hX dX8_back_96 ?_ | refine aw_imul hX dX8_back_96 ?_
          refine aw_iconst hX (v := nI 1) (by decide) dX8_back_97 ?_
          first | with_reducible refine aw_iaddN hX dX8_back_98 ?_ | refine aw_iadd hX dX8_back_98 ?_
          refine aw_iald hX dX8_back_99 rfl (by decide) (by omega) ?_
          refine aw_iload_4 hX dX8_back_100 ?_
          first | with_reducible refine aw_icmpgtN hX (tgt := 131) dX8_back_102 (by decide) (by omega) (by omega) (fun c_102 => ?_) (fun c_102 => ?_) | refine aw_jgt hX (tgt := 131) dX8_back_102 (by decide) (fun c_102 => ?_) (fun c_102 => ?_)
          · skip
            first | with_reducible refine aw_iinc_7N hX rfl (by decide) dX8_back_131 ?_ | refine aw_iinc_7 hX rfl (by decide) dX8_back_131 ?_
            refine aw_goto hX (tgt := 67) dX8_back_134 (by decide) ?_
            exact ih (k + 1) (by omega) _ _ (by simp [swL, laL, c_73, c_86, c_102]; try exact hsw) (by simp [swhL, laL, c_73, c_86, c_102]; try exact hha)
          · skip
            refine aw_aload_0 hX dX8_back_105 ?_
            refine ag_X8_sweep hX fl_X8_37 dX8_back_106 ?_
            refine aw_iconst hX (v := nI 4) (by decide) dX8_back_109 ?_
            refine aw_iload_7 hX dX8_back_110 ?_
            first | with_reducible refine aw_imulN hX dX8_back_112 ?_ | refine aw_imul hX dX8_back_112 ?_
            refine aw_iconst hX (v := nI 1) (by decide) dX8_back_113 ?_
            first | with_reducible refine aw_iaddN hX dX8_back_114 ?_ | refine aw_iadd hX dX8_back_114 ?_
            refine aw_iald hX dX8_back_115 rfl (by decide) (by omega) ?_
            refine aw_istore_5 hX rfl (by decide) dX8_back_116 ?_
            refine aw_aload_0 hX dX8_back_118 ?_
            refine ag_X8_sweep hX fl_X8_37 dX8_back_119 ?_
            refine aw_iconst hX (v := nI 4) (by decide) dX8_back_122 ?_
            refine aw_iload_7 hX dX8_back_123 ?_
            first | with_reducible refine aw_imulN hX dX8_back_125 ?_ | refine aw_imul hX dX8_back_125 ?_
            refine aw_iconst hX (v := nI 2) (by decide) dX8_back_126 ?_
            first | with_reducible refine aw_iaddN hX dX8_back_127 ?_ | refine aw_iadd hX dX8_back_127 ?_
            refine aw_iald hX dX8_back_128 rfl (by decide) (by omega) ?_
            refine aw_istore_6 hX rfl (by decide) dX8_back_129 ?_
            first | with_reducible refine aw_iinc_7N hX rfl (by decide) dX8_back_131 ?_ | refine aw_iinc_7 hX rfl (by decide) dX8_back_131 ?_
            refine aw_goto hX (tgt := 67) dX8_back_134 (by decide) ?_
            exact ih (k + 1) (by omega) _ _ (by simp [swL, laL, c_73, c_86, c_102]; try exact hsw) (by simp [swhL, laL, c_73, c_86, c_102]; try exact hha)
  refine aw_aload_0 hX dX8_back_0 ?_
  refine aw_iconst hX (v := nI 0) (by decide) dX8_back_1 ?_
  refine ap_X8_thrown hX fl_X8_57 dX8_back_2 ?_
  refine aw_S (sN_self h13) ?_
  refine aw_iload_1 hX dX8_back_5 ?_
  refine aw_iconst hX (v := nI 0) (by decide) dX8_back_6 ?_
  refine aw_aload_0 hX dX8_back_7 ?_
  refine ag_X8_fires hX fl_X8_129 dX8_back_8 ?_
  refine aw_iconst hX (v := nI 1) (by decide) dX8_back_11 ?_
  refine aw_isub hX dX8_back_12 ?_
  refine cs_X8_in hX ml_X8_60 dX8_back_13 (m_X8_in_b _ G S _ _ _ true ((inR_m1 (by omega)).trans (hasB_t hj (by omega)))) (Nat.le_of_ble_eq_true rfl) ?_
  first | with_reducible refine aw_ifeqB hX (tgt := 28) dX8_back_16 (by decide) (fun c_16 => ?_) (fun c_16 => ?_) | refine aw_ifeq hX (tgt := 28) dX8_back_16 (by decide) (fun c_16 => ?_) (fun c_16 => ?_)
  · cases c_16
  · skip
    refine aw_iload_2 hX dX8_back_19 ?_
    refine aw_iconst hX (v := nI 0) (by decide) dX8_back_20 ?_
    refine aw_iconst hX (v := nI 5) (by decide) dX8_back_21 ?_
    refine cs_X8_in hX ml_X8_60 dX8_back_22 (m_X8_in_b _ G S _ _ _ true (by decide)) (Nat.le_of_ble_eq_true rfl) ?_
    first | with_reducible refine aw_ifneB hX (tgt := 30) dX8_back_25 (by decide) (fun c_25 => ?_) (fun c_25 => ?_) | refine aw_ifne hX (tgt := 30) dX8_back_25 (by decide) (fun c_25 => ?_) (fun c_25 => ?_)
    · skip
      refine aw_aload_0 hX dX8_back_30 ?_
      refine ag_X8_fire hX fl_X8_34 dX8_back_31 ?_
      refine aw_iconst hX (v := nI 2) (by decide) dX8_back_34 ?_
      refine aw_iload_1 hX dX8_back_35 ?_
      first | with_reducible refine aw_imulN hX dX8_back_36 ?_ | refine aw_imul hX dX8_back_36 ?_
      refine aw_iald hX dX8_back_37 rfl (by decide) (by omega) ?_
      refine aw_ti hf ?_
      refine aw_istore_3 hX rfl (by decide) dX8_back_38 ?_
      refine aw_aload_0 hX dX8_back_39 ?_
      refine ag_X8_fire hX fl_X8_34 dX8_back_40 ?_
      refine aw_iconst hX (v := nI 2) (by decide) dX8_back_43 ?_
      refine aw_iload_1 hX dX8_back_44 ?_
      first | with_reducible refine aw_imulN hX dX8_back_45 ?_ | refine aw_imul hX dX8_back_45 ?_
      refine aw_iconst hX (v := nI 1) (by decide) dX8_back_46 ?_
      first | with_reducible refine aw_iaddN hX dX8_back_47 ?_ | refine aw_iadd hX dX8_back_47 ?_
      refine aw_iald hX dX8_back_48 rfl (by decide) (by omega) ?_
      refine aw_istore_4 hX rfl (by decide) dX8_back_49 ?_
      refine aw_aload_0 hX dX8_back_51 ?_
      refine aw_iload_3 hX dX8_back_52 ?_
      refine aw_bipush hX (v := nI 8) (by decide) dX8_back_53 ?_
      refine cv_X8_of hX ml_X8_99 dX8_back_55 (m_X8_of _ G S i 8 hi (by decide)) (Nat.le_of_ble_eq_true rfl) ?_
      refine aw_istore_5 hX rfl (by decide) dX8_back_58 ?_
      refine aw_bipush hX (v := (-9)) (by decide) dX8_back_60 ?_
      refine aw_istore_6 hX rfl (by decide) dX8_back_62 ?_
      refine aw_iconst hX (v := nI 0) (by decide) dX8_back_64 ?_
      refine aw_istore_7 hX rfl (by decide) dX8_back_65 ?_
      exact loop (S.1 21) 0 (by omega) _ _ rfl rfl
    · cases c_25
set_option maxHeartbeats 4000000 in
set_option maxRecDepth 100000 in
theorem m_X8_back_2 (d : Nat) (G : GT) (S : St) (h13 : S.1 13 = 0) (j i : Nat) (hj : j < S.1 20) (h20 : S.1 20 ≤ 10) (hi : i < 12) (hf : S.2.1 54 (2 * j) = nI i) (h21 : S.1 21 ≤ 100)  : rX8_back G (d + 2) [.ref (gad G 8), .int (nI j), .int (nI 2)] S (some (.int (swL S (S.2.1 54 (2 * j)) (S.2.1 54 (2 * j + 1)) (ofM S i 8) (S.1 21)))) S := by
  refine runs_I (d := (d + 1)) (by decide) (Nat.le_of_ble_eq_true rfl) (fun X (hX : XC X G (d + 1) RX8 cX8_back 8) hR => ?_)
  show AW X G 0 [.ref (gad G 8), .int (nI j), .int (nI 2), .null, .null, .null, .null, .null] [] S
  have loop : ∀ n k : Nat, k + n = S.1 21 → ∀ sw ha : Int32, sw = swL S (nI i) (S.2.1 54 (2 * j + 1)) (ofM S i 8) k → ha = swhL S (nI i) (S.2.1 54 (2 * j + 1)) k → AW X G 67 [.ref (gad G 8), .int (nI j), .int (nI 2), .int (nI i), .int (S.2.1 54 (2 * j + 1)), .int sw, .int ha, .int (nI k)] [] S := by
    intro n
    induction n with
    | zero =>
      intro k hk sw ha hsw hha
      obtain rfl : k = S.1 21 := by omega
      refine aw_iload_7 hX dX8_back_67 ?_
      refine aw_aload_0 hX dX8_back_69 ?_
      refine ag_X8_sweeps hX fl_X8_126 dX8_back_70 ?_
      first | with_reducible refine aw_icmpgeN hX (tgt := 137) dX8_back_73 (by decide) (by omega) (by omega) (fun c_73 => ?_) (fun c_73 => ?_) | refine aw_jge hX (tgt := 137) dX8_back_73 (by decide) (fun c_73 => ?_) (fun c_73 => ?_)
      · skip
        refine aw_iload_2 hX dX8_back_137 ?_
        refine aw_tabIn hX (x := nI 2) (off := 39) (tgt := 177) dX8_back_138 (by decide) (by decide) (by decide) (by decide) ?_
        refine aw_iload_5 hX dX8_back_177 ?_
        refine aw_finI (hR _ _ dX8_back_179) ?_ ?_
        · first | (rw [hf]; done) | (rw [hf]; exact hsw) | (rw [hf]; exact hha)
        · rfl
      · exact absurd c_73 (by omega)
    | succ n ih =>
      intro k hk sw ha hsw hha
      refine aw_iload_7 hX dX8_back_67 ?_
      refine aw_aload_0 hX dX8_back_69 ?_
      refine ag_X8_sweeps hX fl_X8_126 dX8_back_70 ?_
      first | with_reducible refine aw_icmpgeN hX (tgt := 137) dX8_back_73 (by decide) (by omega) (by omega) (fun c_73 => ?_) (fun c_73 => ?_) | refine aw_jge hX (tgt := 137) dX8_back_73 (by decide) (fun c_73 => ?_) (fun c_73 => ?_)
      · exact absurd c_73 (by omega)
      · skip
        refine aw_aload_0 hX dX8_back_76 ?_
        refine ag_X8_sweep hX fl_X8_37 dX8_back_77 ?_
        refine aw_iconst hX (v := nI 4) (by decide) dX8_back_80 ?_
        refine aw_iload_7 hX dX8_back_81 ?_
        first | with_reducible refine aw_imulN hX dX8_back_83 ?_ | refine aw_imul hX dX8_back_83 ?_
        refine aw_iald hX dX8_back_84 rfl (by decide) (by omega) ?_
        refine aw_iload_3 hX dX8_back_85 ?_
        first | with_reducible refine aw_icmpneN hX (tgt := 131) dX8_back_86 (by decide) (by omega) (by omega) (fun c_86 => ?_) (fun c_86 => ?_) | refine aw_icmpne hX (tgt := 131) dX8_back_86 (by decide) (fun c_86 => ?_) (fun c_86 => ?_)
        · skip
          first | with_reducible refine aw_iinc_7N hX rfl (by decide) dX8_back_131 ?_ | refine aw_iinc_7 hX rfl (by decide) dX8_back_131 ?_
          refine aw_goto hX (tgt := 67) dX8_back_134 (by decide) ?_
          exact ih (k + 1) (by omega) _ _ (by simp [swL, laL, c_73, c_86]; try exact hsw) (by simp [swhL, laL, c_73, c_86]; try exact hha)
        · skip
          refine aw_aload_0 hX dX8_back_89 ?_
          refine ag_X8_sweep hX fl_X8_37 dX8_back_90 ?_
          refine aw_iconst hX (v := nI 4) (by decide) dX8_back_93 ?_
          refine aw_iload_7 hX dX8_back_94 ?_
          first | with_reducible refine aw_imulN hX dX8_back_96 ?_ | refine aw_imul hX dX8_back_96 ?_
          refine aw_iconst hX (v := nI 1) (by decide) dX8_back_97 ?_
          first | with_reducible refine aw_iaddN hX dX8_back_98 ?_ | refine aw_iadd hX dX8_back_98 ?_
          refine aw_iald hX dX8_back_99 rfl (by decide) (by omega) ?_
          refine aw_iload_4 hX dX8_back_100 ?_
          first | with_reducible refine aw_icmpgtN hX (tgt := 131) dX8_back_102 (by decide) (by omega) (by omega) (fun c_102 => ?_) (fun c_102 => ?_) | refine aw_jgt hX (tgt := 131) dX8_back_102 (by decide) (fun c_102 => ?_) (fun c_102 => ?_)
          · skip
            first | with_reducible refine aw_iinc_7N hX rfl (by decide) dX8_back_131 ?_ | refine aw_iinc_7 hX rfl (by decide) dX8_back_131 ?_
            refine aw_goto hX (tgt := 67) dX8_back_134 (by decide) ?_
            exact ih (k + 1) (by omega) _ _ (by simp [swL, laL, c_73, c_86, c_102]; try exact hsw) (by simp [swhL, laL, c_73, c_86, c_102]; try exact hha)
          · skip
            refine aw_aload_0 hX dX8_back_105 ?_
            refine ag_X8_sweep hX fl_X8_37 dX8_back_106 ?_
            refine aw_iconst hX (v := nI 4) (by decide) dX8_back_109 ?_
            refine aw_iload_7 hX dX8_back_110 ?_
            first | with_reducible refine aw_imulN hX dX8_back_112 ?_ | refine aw_imul hX dX8_back_112 ?_
            refine aw_iconst hX (v := nI 1) (by decide) dX8_back_113 ?_
            first | with_reducible refine aw_iaddN hX dX8_back_114 ?_ | refine aw_iadd hX dX8_back_114 ?_
            refine aw_iald hX dX8_back_115 rfl (by decide) (by omega) ?_
            refine aw_istore_5 hX rfl (by decide) dX8_back_116 ?_
            refine aw_aload_0 hX dX8_back_118 ?_
            refine ag_X8_sweep hX fl_X8_37 dX8_back_119 ?_
            refine aw_iconst hX (v := nI 4) (by decide) dX8_back_122 ?_
            refine aw_iload_7 hX dX8_back_123 ?_
            first | with_reducible refine aw_imulN hX dX8_back_125 ?_ | refine aw_imul hX dX8_back_125 ?_
            refine aw_iconst hX (v := nI 2) (by decide) dX8_back_126 ?_
            first | with_reducible refine aw_iaddN hX dX8_back_127 ?_ | refine aw_iadd hX dX8_back_127 ?_
            refine aw_iald hX dX8_back_128 rfl (by decide) (by omega) ?_
            refine aw_istore_6 hX rfl (by decide) dX8_back_129 ?_
            first | with_reducible refine aw_iinc_7N hX rfl (by decide) dX8_back_131 ?_ | refine aw_iinc_7 hX rfl (by decide) dX8_back_131 ?_
            refine aw_goto hX (tgt := 67) dX8_back_134 (by decide) ?_
            exact ih (k + 1) (by omega) _ _ (by simp [swL, laL, c_73, c_86, c_102]; try exact hsw) (by simp [swhL, laL, c_73, c_86, c_102]; try exact hha)
  refine aw_aload_0 hX dX8_back_0 ?_
  refine aw_iconst hX (v := nI 0) (by decide) dX8_back_1 ?_
  refine ap_X8_thrown hX fl_X8_57 dX8_back_2 ?_
  refine aw_S (sN_self h13) ?_
  refine aw_iload_1 hX dX8_back_5 ?_
  refine aw_iconst hX (v := nI 0) (by decide) dX8_back_6 ?_
  refine aw_aload_0 hX dX8_back_7 ?_
  refine ag_X8_fires hX fl_X8_129 dX8_back_8 ?_
  refine aw_iconst hX (v := nI 1) (by decide) dX8_back_11 ?_
  refine aw_isub hX dX8_back_12 ?_
  refine cs_X8_in hX ml_X8_60 dX8_back_13 (m_X8_in_b _ G S _ _ _ true ((inR_m1 (by omega)).trans (hasB_t hj (by omega)))) (Nat.le_of_ble_eq_true rfl) ?_
  first | with_reducible refine aw_ifeqB hX (tgt := 28) dX8_back_16 (by decide) (fun c_16 => ?_) (fun c_16 => ?_) | refine aw_ifeq hX (tgt := 28) dX8_back_16 (by decide) (fun c_16 => ?_) (fun c_16 => ?_)
  · cases c_16
  · skip
    refine aw_iload_2 hX dX8_back_19 ?_
    refine aw_iconst hX (v := nI 0) (by decide) dX8_back_20 ?_
    refine aw_iconst hX (v := nI 5) (by decide) dX8_back_21 ?_
    refine cs_X8_in hX ml_X8_60 dX8_back_22 (m_X8_in_b _ G S _ _ _ true (by decide)) (Nat.le_of_ble_eq_true rfl) ?_
    first | with_reducible refine aw_ifneB hX (tgt := 30) dX8_back_25 (by decide) (fun c_25 => ?_) (fun c_25 => ?_) | refine aw_ifne hX (tgt := 30) dX8_back_25 (by decide) (fun c_25 => ?_) (fun c_25 => ?_)
    · skip
      refine aw_aload_0 hX dX8_back_30 ?_
      refine ag_X8_fire hX fl_X8_34 dX8_back_31 ?_
      refine aw_iconst hX (v := nI 2) (by decide) dX8_back_34 ?_
      refine aw_iload_1 hX dX8_back_35 ?_
      first | with_reducible refine aw_imulN hX dX8_back_36 ?_ | refine aw_imul hX dX8_back_36 ?_
      refine aw_iald hX dX8_back_37 rfl (by decide) (by omega) ?_
      refine aw_ti hf ?_
      refine aw_istore_3 hX rfl (by decide) dX8_back_38 ?_
      refine aw_aload_0 hX dX8_back_39 ?_
      refine ag_X8_fire hX fl_X8_34 dX8_back_40 ?_
      refine aw_iconst hX (v := nI 2) (by decide) dX8_back_43 ?_
      refine aw_iload_1 hX dX8_back_44 ?_
      first | with_reducible refine aw_imulN hX dX8_back_45 ?_ | refine aw_imul hX dX8_back_45 ?_
      refine aw_iconst hX (v := nI 1) (by decide) dX8_back_46 ?_
      first | with_reducible refine aw_iaddN hX dX8_back_47 ?_ | refine aw_iadd hX dX8_back_47 ?_
      refine aw_iald hX dX8_back_48 rfl (by decide) (by omega) ?_
      refine aw_istore_4 hX rfl (by decide) dX8_back_49 ?_
      refine aw_aload_0 hX dX8_back_51 ?_
      refine aw_iload_3 hX dX8_back_52 ?_
      refine aw_bipush hX (v := nI 8) (by decide) dX8_back_53 ?_
      refine cv_X8_of hX ml_X8_99 dX8_back_55 (m_X8_of _ G S i 8 hi (by decide)) (Nat.le_of_ble_eq_true rfl) ?_
      refine aw_istore_5 hX rfl (by decide) dX8_back_58 ?_
      refine aw_bipush hX (v := (-9)) (by decide) dX8_back_60 ?_
      refine aw_istore_6 hX rfl (by decide) dX8_back_62 ?_
      refine aw_iconst hX (v := nI 0) (by decide) dX8_back_64 ?_
      refine aw_istore_7 hX rfl (by decide) dX8_back_65 ?_
      exact loop (S.1 21) 0 (by omega) _ _ rfl rfl
    · cases c_25
set_option maxHeartbeats 4000000 in
set_option maxRecDepth 100000 in
theorem m_X8_back_3 (d : Nat) (G : GT) (S : St) (h13 : S.1 13 = 0) (j i : Nat) (hj : j < S.1 20) (h20 : S.1 20 ≤ 10) (hi : i < 12) (hf : S.2.1 54 (2 * j) = nI i) (h21 : S.1 21 ≤ 100)  : rX8_back G (d + 2) [.ref (gad G 8), .int (nI j), .int (nI 3)] S (some (.int (swhL S (S.2.1 54 (2 * j)) (S.2.1 54 (2 * j + 1)) (S.1 21)))) S := by
  refine runs_I (d := (d + 1)) (by decide) (Nat.le_of_ble_eq_true rfl) (fun X (hX : XC X G (d + 1) RX8 cX8_back 8) hR => ?_)
  show AW X G 0 [.ref (gad G 8), .int (nI j), .int (nI 3), .null, .null, .null, .null, .null] [] S
  have loop : ∀ n k : Nat, k + n = S.1 21 → ∀ sw ha : Int32, sw = swL S (nI i) (S.2.1 54 (2 * j + 1)) (ofM S i 8) k → ha = swhL S (nI i) (S.2.1 54 (2 * j + 1)) k → AW X G 67 [.ref (gad G 8), .int (nI j), .int (nI 3), .int (nI i), .int (S.2.1 54 (2 * j + 1)), .int sw, .int ha, .int (nI k)] [] S := by
    intro n
    induction n with
    | zero =>
      intro k hk sw ha hsw hha
      obtain rfl : k = S.1 21 := by omega
      refine aw_iload_7 hX dX8_back_67 ?_
      refine aw_aload_0 hX dX8_back_69 ?_
      refine ag_X8_sweeps hX fl_X8_126 dX8_back_70 ?_
      first | with_reducible refine aw_icmpgeN hX (tgt := 137) dX8_back_73 (by decide) (by omega) (by omega) (fun c_73 => ?_) (fun c_73 => ?_) | refine aw_jge hX (tgt := 137) dX8_back_73 (by decide) (fun c_73 => ?_) (fun c_73 => ?_)
      · skip
        refine aw_iload_2 hX dX8_back_137 ?_
        refine aw_tabIn hX (x := nI 3) (off := 42) (tgt := 180) dX8_back_138 (by decide) (by decide) (by decide) (by decide) ?_
        refine aw_iload_6 hX dX8_back_180 ?_
        refine aw_finI (hR _ _ dX8_back_182) ?_ ?_
        · first | (rw [hf]; done) | (rw [hf]; exact hsw) | (rw [hf]; exact hha)
        · rfl
      · exact absurd c_73 (by omega)
    | succ n ih =>
      intro k hk sw ha hsw hha
      refine aw_iload_7 hX dX8_back_67 ?_
      refine aw_aload_0 hX dX8_back_69 ?_
      refine ag_X8_sweeps hX fl_X8_126 dX8_back_70 ?_
      first | with_reducible refine aw_icmpgeN hX (tgt := 137) dX8_back_73 (by decide) (by omega) (by omega) (fun c_73 => ?_) (fun c_73 => ?_) | refine aw_jge hX (tgt := 137) dX8_back_73 (by decide) (fun c_73 => ?_) (fun c_73 => ?_)
      · exact absurd c_73 (by omega)
      · skip
        refine aw_aload_0 hX dX8_back_76 ?_
        refine ag_X8_sweep hX fl_X8_37 dX8_back_77 ?_
        refine aw_iconst hX (v := nI 4) (by decide) dX8_back_80 ?_
        refine aw_iload_7 hX dX8_back_81 ?_
        first | with_reducible refine aw_imulN hX dX8_back_83 ?_ | refine aw_imul hX dX8_back_83 ?_
        refine aw_iald hX dX8_back_84 rfl (by decide) (by omega) ?_
        refine aw_iload_3 hX dX8_back_85 ?_
        first | with_reducible refine aw_icmpneN hX (tgt := 131) dX8_back_86 (by decide) (by omega) (by omega) (fun c_86 => ?_) (fun c_86 => ?_) | refine aw_icmpne hX (tgt := 131) dX8_back_86 (by decide) (fun c_86 => ?_) (fun c_86 => ?_)
        · skip
          first | with_reducible refine aw_iinc_7N hX rfl (by decide) dX8_back_131 ?_ | refine aw_iinc_7 hX rfl (by decide) dX8_back_131 ?_
          refine aw_goto hX (tgt := 67) dX8_back_134 (by decide) ?_
          exact ih (k + 1) (by omega) _ _ (by simp [swL, laL, c_73, c_86]; try exact hsw) (by simp [swhL, laL, c_73, c_86]; try exact hha)
        · skip
          refine aw_aload_0 hX dX8_back_89 ?_
          refine ag_X8_sweep hX fl_X8_37 dX8_back_90 ?_
          refine aw_iconst hX (v := nI 4) (by decide) dX8_back_93 ?_
          refine aw_iload_7 hX dX8_back_94 ?_
          first | with_reducible refine aw_imulN hX dX8_back_96 ?_ | refine aw_imul hX dX8_back_96 ?_
          refine aw_iconst hX (v := nI 1) (by decide) dX8_back_97 ?_
          first | with_reducible refine aw_iaddN hX dX8_back_98 ?_ | refine aw_iadd hX dX8_back_98 ?_
          refine aw_iald hX dX8_back_99 rfl (by decide) (by omega) ?_
          refine aw_iload_4 hX dX8_back_100 ?_
          first | with_reducible refine aw_icmpgtN hX (tgt := 131) dX8_back_102 (by decide) (by omega) (by omega) (fun c_102 => ?_) (fun c_102 => ?_) | refine aw_jgt hX (tgt := 131) dX8_back_102 (by decide) (fun c_102 => ?_) (fun c_102 => ?_)
          · skip
            first | with_reducible refine aw_iinc_7N hX rfl (by decide) dX8_back_131 ?_ | refine aw_iinc_7 hX rfl (by decide) dX8_back_131 ?_
            refine aw_goto hX (tgt := 67) dX8_back_134 (by decide) ?_
            exact ih (k + 1) (by omega) _ _ (by simp [swL, laL, c_73, c_86, c_102]; try exact hsw) (by simp [swhL, laL, c_73, c_86, c_102]; try exact hha)
          · skip
            refine aw_aload_0 hX dX8_back_105 ?_
            refine ag_X8_sweep hX fl_X8_37 dX8_back_106 ?_
            refine aw_iconst hX (v := nI 4) (by decide) dX8_back_109 ?_
            refine aw_iload_7 hX dX8_back_110 ?_
            first | with_reducible refine aw_imulN hX dX8_back_112 ?_ | refine aw_imul hX dX8_back_112 ?_
            refine aw_iconst hX (v := nI 1) (by decide) dX8_back_113 ?_
            first | with_reducible refine aw_iaddN hX dX8_back_114 ?_ | refine aw_iadd hX dX8_back_114 ?_
            refine aw_iald hX dX8_back_115 rfl (by decide) (by omega) ?_
            refine aw_istore_5 hX rfl (by decide) dX8_back_116 ?_
            refine aw_aload_0 hX dX8_back_118 ?_
            refine ag_X8_sweep hX fl_X8_37 dX8_back_119 ?_
            refine aw_iconst hX (v := nI 4) (by decide) dX8_back_122 ?_
            refine aw_iload_7 hX dX8_back_123 ?_
            first | with_reducible refine aw_imulN hX dX8_back_125 ?_ | refine aw_imul hX dX8_back_125 ?_
            refine aw_iconst hX (v := nI 2) (by decide) dX8_back_126 ?_
            first | with_reducible refine aw_iaddN hX dX8_back_127 ?_ | refine aw_iadd hX dX8_back_127 ?_
            refine aw_iald hX dX8_back_128 rfl (by decide) (by omega) ?_
            refine aw_istore_6 hX rfl (by decide) dX8_back_129 ?_
            first | with_reducible refine aw_iinc_7N hX rfl (by decide) dX8_back_131 ?_ | refine aw_iinc_7 hX rfl (by decide) dX8_back_131 ?_
            refine aw_goto hX (tgt := 67) dX8_back_134 (by decide) ?_
            exact ih (k + 1) (by omega) _ _ (by simp [swL, laL, c_73, c_86, c_102]; try exact hsw) (by simp [swhL, laL, c_73, c_86, c_102]; try exact hha)
  refine aw_aload_0 hX dX8_back_0 ?_
  refine aw_iconst hX (v := nI 0) (by decide) dX8_back_1 ?_
  refine ap_X8_thrown hX fl_X8_57 dX8_back_2 ?_
  refine aw_S (sN_self h13) ?_
  refine aw_iload_1 hX dX8_back_5 ?_
  refine aw_iconst hX (v := nI 0) (by decide) dX8_back_6 ?_
  refine aw_aload_0 hX dX8_back_7 ?_
  refine ag_X8_fires hX fl_X8_129 dX8_back_8 ?_
  refine aw_iconst hX (v := nI 1) (by decide) dX8_back_11 ?_
  refine aw_isub hX dX8_back_12 ?_
  refine cs_X8_in hX ml_X8_60 dX8_back_13 (m_X8_in_b _ G S _ _ _ true ((inR_m1 (by omega)).trans (hasB_t hj (by omega)))) (Nat.le_of_ble_eq_true rfl) ?_
  first | with_reducible refine aw_ifeqB hX (tgt := 28) dX8_back_16 (by decide) (fun c_16 => ?_) (fun c_16 => ?_) | refine aw_ifeq hX (tgt := 28) dX8_back_16 (by decide) (fun c_16 => ?_) (fun c_16 => ?_)
  · cases c_16
  · skip
    refine aw_iload_2 hX dX8_back_19 ?_
    refine aw_iconst hX (v := nI 0) (by decide) dX8_back_20 ?_
    refine aw_iconst hX (v := nI 5) (by decide) dX8_back_21 ?_
    refine cs_X8_in hX ml_X8_60 dX8_back_22 (m_X8_in_b _ G S _ _ _ true (by decide)) (Nat.le_of_ble_eq_true rfl) ?_
    first | with_reducible refine aw_ifneB hX (tgt := 30) dX8_back_25 (by decide) (fun c_25 => ?_) (fun c_25 => ?_) | refine aw_ifne hX (tgt := 30) dX8_back_25 (by decide) (fun c_25 => ?_) (fun c_25 => ?_)
    · skip
      refine aw_aload_0 hX dX8_back_30 ?_
      refine ag_X8_fire hX fl_X8_34 dX8_back_31 ?_
      refine aw_iconst hX (v := nI 2) (by decide) dX8_back_34 ?_
      refine aw_iload_1 hX dX8_back_35 ?_
      first | with_reducible refine aw_imulN hX dX8_back_36 ?_ | refine aw_imul hX dX8_back_36 ?_
      refine aw_iald hX dX8_back_37 rfl (by decide) (by omega) ?_
      refine aw_ti hf ?_
      refine aw_istore_3 hX rfl (by decide) dX8_back_38 ?_
      refine aw_aload_0 hX dX8_back_39 ?_
      refine ag_X8_fire hX fl_X8_34 dX8_back_40 ?_
      refine aw_iconst hX (v := nI 2) (by decide) dX8_back_43 ?_
      refine aw_iload_1 hX dX8_back_44 ?_
      first | with_reducible refine aw_imulN hX dX8_back_45 ?_ | refine aw_imul hX dX8_back_45 ?_
      refine aw_iconst hX (v := nI 1) (by decide) dX8_back_46 ?_
      first | with_reducible refine aw_iaddN hX dX8_back_47 ?_ | refine aw_iadd hX dX8_back_47 ?_
      refine aw_iald hX dX8_back_48 rfl (by decide) (by omega) ?_
      refine aw_istore_4 hX rfl (by decide) dX8_back_49 ?_
      refine aw_aload_0 hX dX8_back_51 ?_
      refine aw_iload_3 hX dX8_back_52 ?_
      refine aw_bipush hX (v := nI 8) (by decide) dX8_back_53 ?_
      refine cv_X8_of hX ml_X8_99 dX8_back_55 (m_X8_of _ G S i 8 hi (by decide)) (Nat.le_of_ble_eq_true rfl) ?_
      refine aw_istore_5 hX rfl (by decide) dX8_back_58 ?_
      refine aw_bipush hX (v := (-9)) (by decide) dX8_back_60 ?_
      refine aw_istore_6 hX rfl (by decide) dX8_back_62 ?_
      refine aw_iconst hX (v := nI 0) (by decide) dX8_back_64 ?_
      refine aw_istore_7 hX rfl (by decide) dX8_back_65 ?_
      exact loop (S.1 21) 0 (by omega) _ _ rfl rfl
    · cases c_25
set_option maxHeartbeats 4000000 in
set_option maxRecDepth 100000 in
theorem m_X8_back_4 (d : Nat) (G : GT) (S : St) (h13 : S.1 13 = 0) (j i : Nat) (hj : j < S.1 20) (h20 : S.1 20 ≤ 10) (hi : i < 12) (hf : S.2.1 54 (2 * j) = nI i) (h21 : S.1 21 ≤ 100) (w : Nat) (hw : swL S (S.2.1 54 (2 * j)) (S.2.1 54 (2 * j + 1)) (ofM S i 8) (S.1 21) = nI w) (hw5 : w ≤ 500) (hb : BmOK S) (hsp : ∀ f dy, spM S f dy ≤ nI 200) : rX8_back G (d + 3) [.ref (gad G 8), .int (nI j), .int (nI 4)] S (some (.int (bI (!decide (S.2.1 54 (2 * j + 1) ≤ nI (duM S (ofM S i 1) w)))))) S := by
  rw [hf] at hw
  refine runs_I (d := (d + 2)) (by decide) (Nat.le_of_ble_eq_true rfl) (fun X (hX : XC X G (d + 2) RX8 cX8_back 8) hR => ?_)
  show AW X G 0 [.ref (gad G 8), .int (nI j), .int (nI 4), .null, .null, .null, .null, .null] [] S
  have loop : ∀ n k : Nat, k + n = S.1 21 → ∀ sw ha : Int32, sw = swL S (nI i) (S.2.1 54 (2 * j + 1)) (ofM S i 8) k → ha = swhL S (nI i) (S.2.1 54 (2 * j + 1)) k → AW X G 67 [.ref (gad G 8), .int (nI j), .int (nI 4), .int (nI i), .int (S.2.1 54 (2 * j + 1)), .int sw, .int ha, .int (nI k)] [] S := by
    intro n
    induction n with
    | zero =>
      intro k hk sw ha hsw hha
      obtain rfl : k = S.1 21 := by omega
      refine aw_iload_7 hX dX8_back_67 ?_
      refine aw_aload_0 hX dX8_back_69 ?_
      refine ag_X8_sweeps hX fl_X8_126 dX8_back_70 ?_
      first | with_reducible refine aw_icmpgeN hX (tgt := 137) dX8_back_73 (by decide) (by omega) (by omega) (fun c_73 => ?_) (fun c_73 => ?_) | refine aw_jge hX (tgt := 137) dX8_back_73 (by decide) (fun c_73 => ?_) (fun c_73 => ?_)
      · skip
        refine aw_iload_2 hX dX8_back_137 ?_
        refine aw_tabIn hX (x := nI 4) (off := 45) (tgt := 183) dX8_back_138 (by decide) (by decide) (by decide) (by decide) ?_
        refine aw_aload_0 hX dX8_back_183 ?_
        refine aw_iload_3 hX dX8_back_184 ?_
        refine aw_iload_5 hX dX8_back_185 ?_
        rw [hsw]
        refine aw_ti hw ?_
        refine cv_X8_dueBy hX ml_X8_123 dX8_back_187 (m_X8_dueBy _ G S i w hi hw5 hb hsp) (Nat.le_of_ble_eq_true rfl) ?_
        refine aw_iload_4 hX dX8_back_190 ?_
        refine aw_jge hX (tgt := 199) dX8_back_192 (by decide) (fun c_192 => ?_) (fun c_192 => ?_)
        · skip
          refine aw_iconst hX (v := nI 0) (by decide) dX8_back_199 ?_
          refine aw_finI (hR _ _ dX8_back_200) ?_ ?_
          · first | exact bF (by simp [c_73, c_192]) | exact bT (by simp [c_73, c_192])
          · rfl
        · skip
          refine aw_iconst hX (v := nI 1) (by decide) dX8_back_195 ?_
          refine aw_goto hX (tgt := 200) dX8_back_196 (by decide) ?_
          refine aw_finI (hR _ _ dX8_back_200) ?_ ?_
          · first | exact bF (by simp [c_73, c_192]) | exact bT (by simp [c_73, c_192])
          · rfl
      · exact absurd c_73 (by omega)
    | succ n ih =>
      intro k hk sw ha hsw hha
      refine aw_iload_7 hX dX8_back_67 ?_
      refine aw_aload_0 hX dX8_back_69 ?_
      refine ag_X8_sweeps hX fl_X8_126 dX8_back_70 ?_
      first | with_reducible refine aw_icmpgeN hX (tgt := 137) dX8_back_73 (by decide) (by omega) (by omega) (fun c_73 => ?_) (fun c_73 => ?_) | refine aw_jge hX (tgt := 137) dX8_back_73 (by decide) (fun c_73 => ?_) (fun c_73 => ?_)
      · exact absurd c_73 (by omega)
      · skip
        refine aw_aload_0 hX dX8_back_76 ?_
        refine ag_X8_sweep hX fl_X8_37 dX8_back_77 ?_
        refine aw_iconst hX (v := nI 4) (by decide) dX8_back_80 ?_
        refine aw_iload_7 hX dX8_back_81 ?_
        first | with_reducible refine aw_imulN hX dX8_back_83 ?_ | refine aw_imul hX dX8_back_83 ?_
        refine aw_iald hX dX8_back_84 rfl (by decide) (by omega) ?_
        refine aw_iload_3 hX dX8_back_85 ?_
        first | with_reducible refine aw_icmpneN hX (tgt := 131) dX8_back_86 (by decide) (by omega) (by omega) (fun c_86 => ?_) (fun c_86 => ?_) | refine aw_icmpne hX (tgt := 131) dX8_back_86 (by decide) (fun c_86 => ?_) (fun c_86 => ?_)
        · skip
          first | with_reducible refine aw_iinc_7N hX rfl (by decide) dX8_back_131 ?_ | refine aw_iinc_7 hX rfl (by decide) dX8_back_131 ?_
          refine aw_goto hX (tgt := 67) dX8_back_134 (by decide) ?_
          exact ih (k + 1) (by omega) _ _ (by simp [swL, laL, c_73, c_86]; try exact hsw) (by simp [swhL, laL, c_73, c_86]; try exact hha)
        · skip
          refine aw_aload_0 hX dX8_back_89 ?_
          refine ag_X8_sweep hX fl_X8_37 dX8_back_90 ?_
          refine aw_iconst hX (v := nI 4) (by decide) dX8_back_93 ?_
          refine aw_iload_7 hX dX8_back_94 ?_
          first | with_reducible refine aw_imulN hX dX8_back_96 ?_ | refine aw_imul hX dX8_back_96 ?_
          refine aw_iconst hX (v := nI 1) (by decide) dX8_back_97 ?_
          first | with_reducible refine aw_iaddN hX dX8_back_98 ?_ | refine aw_iadd hX dX8_back_98 ?_
          refine aw_iald hX dX8_back_99 rfl (by decide) (by omega) ?_
          refine aw_iload_4 hX dX8_back_100 ?_
          first | with_reducible refine aw_icmpgtN hX (tgt := 131) dX8_back_102 (by decide) (by omega) (by omega) (fun c_102 => ?_) (fun c_102 => ?_) | refine aw_jgt hX (tgt := 131) dX8_back_102 (by decide) (fun c_102 => ?_) (fun c_102 => ?_)
          · skip
            first | with_reducible refine aw_iinc_7N hX rfl (by decide) dX8_back_131 ?_ | refine aw_iinc_7 hX rfl (by decide) dX8_back_131 ?_
            refine aw_goto hX (tgt := 67) dX8_back_134 (by decide) ?_
            exact ih (k + 1) (by omega) _ _ (by simp [swL, laL, c_73, c_86, c_102]; try exact hsw) (by simp [swhL, laL, c_73, c_86, c_102]; try exact hha)
          · skip
            refine aw_aload_0 hX dX8_back_105 ?_
            refine ag_X8_sweep hX fl_X8_37 dX8_back_106 ?_
            refine aw_iconst hX (v := nI 4) (by decide) dX8_back_109 ?_
            refine aw_iload_7 hX dX8_back_110 ?_
            first | with_reducible refine aw_imulN hX dX8_back_112 ?_ | refine aw_imul hX dX8_back_112 ?_
            refine aw_iconst hX (v := nI 1) (by decide) dX8_back_113 ?_
            first | with_reducible refine aw_iaddN hX dX8_back_114 ?_ | refine aw_iadd hX dX8_back_114 ?_
            refine aw_iald hX dX8_back_115 rfl (by decide) (by omega) ?_
            refine aw_istore_5 hX rfl (by decide) dX8_back_116 ?_
            refine aw_aload_0 hX dX8_back_118 ?_
            refine ag_X8_sweep hX fl_X8_37 dX8_back_119 ?_
            refine aw_iconst hX (v := nI 4) (by decide) dX8_back_122 ?_
            refine aw_iload_7 hX dX8_back_123 ?_
            first | with_reducible refine aw_imulN hX dX8_back_125 ?_ | refine aw_imul hX dX8_back_125 ?_
            refine aw_iconst hX (v := nI 2) (by decide) dX8_back_126 ?_
            first | with_reducible refine aw_iaddN hX dX8_back_127 ?_ | refine aw_iadd hX dX8_back_127 ?_
            refine aw_iald hX dX8_back_128 rfl (by decide) (by omega) ?_
            refine aw_istore_6 hX rfl (by decide) dX8_back_129 ?_
            first | with_reducible refine aw_iinc_7N hX rfl (by decide) dX8_back_131 ?_ | refine aw_iinc_7 hX rfl (by decide) dX8_back_131 ?_
            refine aw_goto hX (tgt := 67) dX8_back_134 (by decide) ?_
            exact ih (k + 1) (by omega) _ _ (by simp [swL, laL, c_73, c_86, c_102]; try exact hsw) (by simp [swhL, laL, c_73, c_86, c_102]; try exact hha)
  refine aw_aload_0 hX dX8_back_0 ?_
  refine aw_iconst hX (v := nI 0) (by decide) dX8_back_1 ?_
  refine ap_X8_thrown hX fl_X8_57 dX8_back_2 ?_
  refine aw_S (sN_self h13) ?_
  refine aw_iload_1 hX dX8_back_5 ?_
  refine aw_iconst hX (v := nI 0) (by decide) dX8_back_6 ?_
  refine aw_aload_0 hX dX8_back_7 ?_
  refine ag_X8_fires hX fl_X8_129 dX8_back_8 ?_
  refine aw_iconst hX (v := nI 1) (by decide) dX8_back_11 ?_
  refine aw_isub hX dX8_back_12 ?_
  refine cs_X8_in hX ml_X8_60 dX8_back_13 (m_X8_in_b _ G S _ _ _ true ((inR_m1 (by omega)).trans (hasB_t hj (by omega)))) (Nat.le_of_ble_eq_true rfl) ?_
  first | with_reducible refine aw_ifeqB hX (tgt := 28) dX8_back_16 (by decide) (fun c_16 => ?_) (fun c_16 => ?_) | refine aw_ifeq hX (tgt := 28) dX8_back_16 (by decide) (fun c_16 => ?_) (fun c_16 => ?_)
  · cases c_16
  · skip
    refine aw_iload_2 hX dX8_back_19 ?_
    refine aw_iconst hX (v := nI 0) (by decide) dX8_back_20 ?_
    refine aw_iconst hX (v := nI 5) (by decide) dX8_back_21 ?_
    refine cs_X8_in hX ml_X8_60 dX8_back_22 (m_X8_in_b _ G S _ _ _ true (by decide)) (Nat.le_of_ble_eq_true rfl) ?_
    first | with_reducible refine aw_ifneB hX (tgt := 30) dX8_back_25 (by decide) (fun c_25 => ?_) (fun c_25 => ?_) | refine aw_ifne hX (tgt := 30) dX8_back_25 (by decide) (fun c_25 => ?_) (fun c_25 => ?_)
    · skip
      refine aw_aload_0 hX dX8_back_30 ?_
      refine ag_X8_fire hX fl_X8_34 dX8_back_31 ?_
      refine aw_iconst hX (v := nI 2) (by decide) dX8_back_34 ?_
      refine aw_iload_1 hX dX8_back_35 ?_
      first | with_reducible refine aw_imulN hX dX8_back_36 ?_ | refine aw_imul hX dX8_back_36 ?_
      refine aw_iald hX dX8_back_37 rfl (by decide) (by omega) ?_
      refine aw_ti hf ?_
      refine aw_istore_3 hX rfl (by decide) dX8_back_38 ?_
      refine aw_aload_0 hX dX8_back_39 ?_
      refine ag_X8_fire hX fl_X8_34 dX8_back_40 ?_
      refine aw_iconst hX (v := nI 2) (by decide) dX8_back_43 ?_
      refine aw_iload_1 hX dX8_back_44 ?_
      first | with_reducible refine aw_imulN hX dX8_back_45 ?_ | refine aw_imul hX dX8_back_45 ?_
      refine aw_iconst hX (v := nI 1) (by decide) dX8_back_46 ?_
      first | with_reducible refine aw_iaddN hX dX8_back_47 ?_ | refine aw_iadd hX dX8_back_47 ?_
      refine aw_iald hX dX8_back_48 rfl (by decide) (by omega) ?_
      refine aw_istore_4 hX rfl (by decide) dX8_back_49 ?_
      refine aw_aload_0 hX dX8_back_51 ?_
      refine aw_iload_3 hX dX8_back_52 ?_
      refine aw_bipush hX (v := nI 8) (by decide) dX8_back_53 ?_
      refine cv_X8_of hX ml_X8_99 dX8_back_55 (m_X8_of _ G S i 8 hi (by decide)) (Nat.le_of_ble_eq_true rfl) ?_
      refine aw_istore_5 hX rfl (by decide) dX8_back_58 ?_
      refine aw_bipush hX (v := (-9)) (by decide) dX8_back_60 ?_
      refine aw_istore_6 hX rfl (by decide) dX8_back_62 ?_
      refine aw_iconst hX (v := nI 0) (by decide) dX8_back_64 ?_
      refine aw_istore_7 hX rfl (by decide) dX8_back_65 ?_
      exact loop (S.1 21) 0 (by omega) _ _ rfl rfl
    · cases c_25
set_option maxHeartbeats 4000000 in
set_option maxRecDepth 100000 in
theorem m_X8_back_5 (d : Nat) (G : GT) (S : St) (h13 : S.1 13 = 0) (j i : Nat) (hj : j < S.1 20) (h20 : S.1 20 ≤ 10) (hi : i < 12) (hf : S.2.1 54 (2 * j) = nI i) (h21 : S.1 21 ≤ 100) (h19 : S.1 19 ≤ 30) : rX8_back G (d + 2) [.ref (gad G 8), .int (nI j), .int (nI 5)] S (some (.int (knM S (S.2.1 54 (2 * j)) (S.2.1 54 (2 * j + 1))))) S := by
  refine runs_I (d := (d + 1)) (by decide) (Nat.le_of_ble_eq_true rfl) (fun X (hX : XC X G (d + 1) RX8 cX8_back 8) hR => ?_)
  show AW X G 0 [.ref (gad G 8), .int (nI j), .int (nI 5), .null, .null, .null, .null, .null] [] S
  have loop : ∀ n k : Nat, k + n = S.1 21 → ∀ sw ha : Int32, sw = swL S (nI i) (S.2.1 54 (2 * j + 1)) (ofM S i 8) k → ha = swhL S (nI i) (S.2.1 54 (2 * j + 1)) k → AW X G 67 [.ref (gad G 8), .int (nI j), .int (nI 5), .int (nI i), .int (S.2.1 54 (2 * j + 1)), .int sw, .int ha, .int (nI k)] [] S := by
    intro n
    induction n with
    | zero =>
      intro k hk sw ha hsw hha
      obtain rfl : k = S.1 21 := by omega
      refine aw_iload_7 hX dX8_back_67 ?_
      refine aw_aload_0 hX dX8_back_69 ?_
      refine ag_X8_sweeps hX fl_X8_126 dX8_back_70 ?_
      first | with_reducible refine aw_icmpgeN hX (tgt := 137) dX8_back_73 (by decide) (by omega) (by omega) (fun c_73 => ?_) (fun c_73 => ?_) | refine aw_jge hX (tgt := 137) dX8_back_73 (by decide) (fun c_73 => ?_) (fun c_73 => ?_)
      · skip
        refine aw_iload_2 hX dX8_back_137 ?_
        refine aw_tabOut hX (tgt := 201) dX8_back_138 (by decide) (by decide) ?_
        refine aw_aload_0 hX dX8_back_201 ?_
        refine aw_iload_3 hX dX8_back_202 ?_
        refine aw_iload_4 hX dX8_back_203 ?_
        refine cv_X8_knownOn hX ml_X8_113 dX8_back_205 (m_X8_knownOn _ G S _ _ h19) (Nat.le_of_ble_eq_true rfl) ?_
        refine aw_finI (hR _ _ dX8_back_208) ?_ ?_
        · first | (rw [hf]; done) | (rw [hf]; exact hsw) | (rw [hf]; exact hha)
        · rfl
      · exact absurd c_73 (by omega)
    | succ n ih =>
      intro k hk sw ha hsw hha
      refine aw_iload_7 hX dX8_back_67 ?_
      refine aw_aload_0 hX dX8_back_69 ?_
      refine ag_X8_sweeps hX fl_X8_126 dX8_back_70 ?_
      first | with_reducible refine aw_icmpgeN hX (tgt := 137) dX8_back_73 (by decide) (by omega) (by omega) (fun c_73 => ?_) (fun c_73 => ?_) | refine aw_jge hX (tgt := 137) dX8_back_73 (by decide) (fun c_73 => ?_) (fun c_73 => ?_)
      · exact absurd c_73 (by omega)
      · skip
        refine aw_aload_0 hX dX8_back_76 ?_
        refine ag_X8_sweep hX fl_X8_37 dX8_back_77 ?_
        refine aw_iconst hX (v := nI 4) (by decide) dX8_back_80 ?_
        refine aw_iload_7 hX dX8_back_81 ?_
        first | with_reducible refine aw_imulN hX dX8_back_83 ?_ | refine aw_imul hX dX8_back_83 ?_
        refine aw_iald hX dX8_back_84 rfl (by decide) (by omega) ?_
        refine aw_iload_3 hX dX8_back_85 ?_
        first | with_reducible refine aw_icmpneN hX (tgt := 131) dX8_back_86 (by decide) (by omega) (by omega) (fun c_86 => ?_) (fun c_86 => ?_) | refine aw_icmpne hX (tgt := 131) dX8_back_86 (by decide) (fun c_86 => ?_) (fun c_86 => ?_)
        · skip
          first | with_reducible refine aw_iinc_7N hX rfl (by decide) dX8_back_131 ?_ | refine aw_iinc_7 hX rfl (by decide) dX8_back_131 ?_
          refine aw_goto hX (tgt := 67) dX8_back_134 (by decide) ?_
          exact ih (k + 1) (by omega) _ _ (by simp [swL, laL, c_73, c_86]; try exact hsw) (by simp [swhL, laL, c_73, c_86]; try exact hha)
        · skip
          refine aw_aload_0 hX dX8_back_89 ?_
          refine ag_X8_sweep hX fl_X8_37 dX8_back_90 ?_
          refine aw_iconst hX (v := nI 4) (by decide) dX8_back_93 ?_
          refine aw_iload_7 hX dX8_back_94 ?_
          first | with_reducible refine aw_imulN hX dX8_back_96 ?_ | refine aw_imul hX dX8_back_96 ?_
          refine aw_iconst hX (v := nI 1) (by decide) dX8_back_97 ?_
          first | with_reducible refine aw_iaddN hX dX8_back_98 ?_ | refine aw_iadd hX dX8_back_98 ?_
          refine aw_iald hX dX8_back_99 rfl (by decide) (by omega) ?_
          refine aw_iload_4 hX dX8_back_100 ?_
          first | with_reducible refine aw_icmpgtN hX (tgt := 131) dX8_back_102 (by decide) (by omega) (by omega) (fun c_102 => ?_) (fun c_102 => ?_) | refine aw_jgt hX (tgt := 131) dX8_back_102 (by decide) (fun c_102 => ?_) (fun c_102 => ?_)
          · skip
            first | with_reducible refine aw_iinc_7N hX rfl (by decide) dX8_back_131 ?_ | refine aw_iinc_7 hX rfl (by decide) dX8_back_131 ?_
            refine aw_goto hX (tgt := 67) dX8_back_134 (by decide) ?_
            exact ih (k + 1) (by omega) _ _ (by simp [swL, laL, c_73, c_86, c_102]; try exact hsw) (by simp [swhL, laL, c_73, c_86, c_102]; try exact hha)
          · skip
            refine aw_aload_0 hX dX8_back_105 ?_
            refine ag_X8_sweep hX fl_X8_37 dX8_back_106 ?_
            refine aw_iconst hX (v := nI 4) (by decide) dX8_back_109 ?_
            refine aw_iload_7 hX dX8_back_110 ?_
            first | with_reducible refine aw_imulN hX dX8_back_112 ?_ | refine aw_imul hX dX8_back_112 ?_
            refine aw_iconst hX (v := nI 1) (by decide) dX8_back_113 ?_
            first | with_reducible refine aw_iaddN hX dX8_back_114 ?_ | refine aw_iadd hX dX8_back_114 ?_
            refine aw_iald hX dX8_back_115 rfl (by decide) (by omega) ?_
            refine aw_istore_5 hX rfl (by decide) dX8_back_116 ?_
            refine aw_aload_0 hX dX8_back_118 ?_
            refine ag_X8_sweep hX fl_X8_37 dX8_back_119 ?_
            refine aw_iconst hX (v := nI 4) (by decide) dX8_back_122 ?_
            refine aw_iload_7 hX dX8_back_123 ?_
            first | with_reducible refine aw_imulN hX dX8_back_125 ?_ | refine aw_imul hX dX8_back_125 ?_
            refine aw_iconst hX (v := nI 2) (by decide) dX8_back_126 ?_
            first | with_reducible refine aw_iaddN hX dX8_back_127 ?_ | refine aw_iadd hX dX8_back_127 ?_
            refine aw_iald hX dX8_back_128 rfl (by decide) (by omega) ?_
            refine aw_istore_6 hX rfl (by decide) dX8_back_129 ?_
            first | with_reducible refine aw_iinc_7N hX rfl (by decide) dX8_back_131 ?_ | refine aw_iinc_7 hX rfl (by decide) dX8_back_131 ?_
            refine aw_goto hX (tgt := 67) dX8_back_134 (by decide) ?_
            exact ih (k + 1) (by omega) _ _ (by simp [swL, laL, c_73, c_86, c_102]; try exact hsw) (by simp [swhL, laL, c_73, c_86, c_102]; try exact hha)
  refine aw_aload_0 hX dX8_back_0 ?_
  refine aw_iconst hX (v := nI 0) (by decide) dX8_back_1 ?_
  refine ap_X8_thrown hX fl_X8_57 dX8_back_2 ?_
  refine aw_S (sN_self h13) ?_
  refine aw_iload_1 hX dX8_back_5 ?_
  refine aw_iconst hX (v := nI 0) (by decide) dX8_back_6 ?_
  refine aw_aload_0 hX dX8_back_7 ?_
  refine ag_X8_fires hX fl_X8_129 dX8_back_8 ?_
  refine aw_iconst hX (v := nI 1) (by decide) dX8_back_11 ?_
  refine aw_isub hX dX8_back_12 ?_
  refine cs_X8_in hX ml_X8_60 dX8_back_13 (m_X8_in_b _ G S _ _ _ true ((inR_m1 (by omega)).trans (hasB_t hj (by omega)))) (Nat.le_of_ble_eq_true rfl) ?_
  first | with_reducible refine aw_ifeqB hX (tgt := 28) dX8_back_16 (by decide) (fun c_16 => ?_) (fun c_16 => ?_) | refine aw_ifeq hX (tgt := 28) dX8_back_16 (by decide) (fun c_16 => ?_) (fun c_16 => ?_)
  · cases c_16
  · skip
    refine aw_iload_2 hX dX8_back_19 ?_
    refine aw_iconst hX (v := nI 0) (by decide) dX8_back_20 ?_
    refine aw_iconst hX (v := nI 5) (by decide) dX8_back_21 ?_
    refine cs_X8_in hX ml_X8_60 dX8_back_22 (m_X8_in_b _ G S _ _ _ true (by decide)) (Nat.le_of_ble_eq_true rfl) ?_
    first | with_reducible refine aw_ifneB hX (tgt := 30) dX8_back_25 (by decide) (fun c_25 => ?_) (fun c_25 => ?_) | refine aw_ifne hX (tgt := 30) dX8_back_25 (by decide) (fun c_25 => ?_) (fun c_25 => ?_)
    · skip
      refine aw_aload_0 hX dX8_back_30 ?_
      refine ag_X8_fire hX fl_X8_34 dX8_back_31 ?_
      refine aw_iconst hX (v := nI 2) (by decide) dX8_back_34 ?_
      refine aw_iload_1 hX dX8_back_35 ?_
      first | with_reducible refine aw_imulN hX dX8_back_36 ?_ | refine aw_imul hX dX8_back_36 ?_
      refine aw_iald hX dX8_back_37 rfl (by decide) (by omega) ?_
      refine aw_ti hf ?_
      refine aw_istore_3 hX rfl (by decide) dX8_back_38 ?_
      refine aw_aload_0 hX dX8_back_39 ?_
      refine ag_X8_fire hX fl_X8_34 dX8_back_40 ?_
      refine aw_iconst hX (v := nI 2) (by decide) dX8_back_43 ?_
      refine aw_iload_1 hX dX8_back_44 ?_
      first | with_reducible refine aw_imulN hX dX8_back_45 ?_ | refine aw_imul hX dX8_back_45 ?_
      refine aw_iconst hX (v := nI 1) (by decide) dX8_back_46 ?_
      first | with_reducible refine aw_iaddN hX dX8_back_47 ?_ | refine aw_iadd hX dX8_back_47 ?_
      refine aw_iald hX dX8_back_48 rfl (by decide) (by omega) ?_
      refine aw_istore_4 hX rfl (by decide) dX8_back_49 ?_
      refine aw_aload_0 hX dX8_back_51 ?_
      refine aw_iload_3 hX dX8_back_52 ?_
      refine aw_bipush hX (v := nI 8) (by decide) dX8_back_53 ?_
      refine cv_X8_of hX ml_X8_99 dX8_back_55 (m_X8_of _ G S i 8 hi (by decide)) (Nat.le_of_ble_eq_true rfl) ?_
      refine aw_istore_5 hX rfl (by decide) dX8_back_58 ?_
      refine aw_bipush hX (v := (-9)) (by decide) dX8_back_60 ?_
      refine aw_istore_6 hX rfl (by decide) dX8_back_62 ?_
      refine aw_iconst hX (v := nI 0) (by decide) dX8_back_64 ?_
      refine aw_istore_7 hX rfl (by decide) dX8_back_65 ?_
      exact loop (S.1 21) 0 (by omega) _ _ rfl rfl
    · cases c_25
set_option maxHeartbeats 4000000 in
set_option maxRecDepth 100000 in
theorem m_X8_rate_bad (d : Nat) (G : GT) (S : St) (h13 : S.1 13 = 0) (n : Int32) (h : inR n (nI 1) (nI 9) = false) : rX8_rate G (d + 2) [.ref (gad G 8), .int n] S (some (.int (-1))) S := by
  refine runs_I (d := (d + 1)) (by decide) (Nat.le_of_ble_eq_true rfl) (fun X (hX : XC X G (d + 1) RX8 cX8_rate 3) hR => ?_)
  show AW X G 0 [.ref (gad G 8), .int n, .null] [] S
  refine aw_aload_0 hX dX8_rate_0 ?_
  refine aw_iconst hX (v := nI 0) (by decide) dX8_rate_1 ?_
  refine ap_X8_thrown hX fl_X8_57 dX8_rate_2 ?_
  refine aw_S (sN_self h13) ?_
  refine aw_iload_1 hX dX8_rate_5 ?_
  refine aw_iconst hX (v := nI 1) (by decide) dX8_rate_6 ?_
  refine aw_bipush hX (v := nI 9) (by decide) dX8_rate_7 ?_
  refine cs_X8_in hX ml_X8_60 dX8_rate_9 (m_X8_in_b _ G S _ _ _ false h) (Nat.le_of_ble_eq_true rfl) ?_
  first | with_reducible refine aw_ifneB hX (tgt := 17) dX8_rate_12 (by decide) (fun c_12 => ?_) (fun c_12 => ?_) | refine aw_ifne hX (tgt := 17) dX8_rate_12 (by decide) (fun c_12 => ?_) (fun c_12 => ?_)
  · cases c_12
  · skip
    refine aw_iconst hX (v := (-1)) (by decide) dX8_rate_15 ?_
    refine aw_finI (hR _ _ dX8_rate_16) ?_ ?_
    · rfl
    · rfl
set_option maxHeartbeats 4000000 in
set_option maxRecDepth 100000 in
theorem m_X8_rate_ok (d : Nat) (G : GT) (S : St) (h13 : S.1 13 = 0) (k : Nat) (hk : 1 ≤ k) (hk9 : k ≤ 9) : rX8_rate G (d + 2) [.ref (gad G 8), .int (nI k)] S (some (.int (nI (S.1 22)))) (sN S 22 k) := by
  refine runs_I (d := (d + 1)) (by decide) (Nat.le_of_ble_eq_true rfl) (fun X (hX : XC X G (d + 1) RX8 cX8_rate 3) hR => ?_)
  show AW X G 0 [.ref (gad G 8), .int (nI k), .null] [] S
  refine aw_aload_0 hX dX8_rate_0 ?_
  refine aw_iconst hX (v := nI 0) (by decide) dX8_rate_1 ?_
  refine ap_X8_thrown hX fl_X8_57 dX8_rate_2 ?_
  refine aw_S (sN_self h13) ?_
  refine aw_iload_1 hX dX8_rate_5 ?_
  refine aw_iconst hX (v := nI 1) (by decide) dX8_rate_6 ?_
  refine aw_bipush hX (v := nI 9) (by decide) dX8_rate_7 ?_
  refine cs_X8_in hX ml_X8_60 dX8_rate_9 (m_X8_in_b _ G S _ _ _ true (by rw [inR_nI (by omega) (by omega) (by omega)]; simp; omega)) (Nat.le_of_ble_eq_true rfl) ?_
  first | with_reducible refine aw_ifneB hX (tgt := 17) dX8_rate_12 (by decide) (fun c_12 => ?_) (fun c_12 => ?_) | refine aw_ifne hX (tgt := 17) dX8_rate_12 (by decide) (fun c_12 => ?_) (fun c_12 => ?_)
  · skip
    refine aw_aload_0 hX dX8_rate_17 ?_
    refine ag_X8_rate hX fl_X8_40 dX8_rate_18 ?_
    refine aw_istore_2 hX rfl (by decide) dX8_rate_21 ?_
    refine aw_aload_0 hX dX8_rate_22 ?_
    refine aw_iload_1 hX dX8_rate_23 ?_
    refine ap_X8_rate hX fl_X8_40 dX8_rate_24 ?_
    refine aw_iload_2 hX dX8_rate_27 ?_
    refine aw_finI (hR _ _ dX8_rate_28) ?_ ?_
    · rfl
    · rfl
  · cases c_12
set_option maxHeartbeats 4000000 in
set_option maxRecDepth 100000 in
theorem m_X8_ill_bad (d : Nat) (G : GT) (S : St) (h13 : S.1 13 = 0) (hd b : Int32) (h : inR hd (nI 0) (nI 3) = false) : rX8_ill G (d + 3) [.ref (gad G 8), .int hd, .int b] S (some (.int (-1))) S := by
  refine runs_I (d := (d + 2)) (by decide) (Nat.le_of_ble_eq_true rfl) (fun X (hX : XC X G (d + 2) RX8 cX8_ill 4) hR => ?_)
  show AW X G 0 [.ref (gad G 8), .int hd, .int b, .null] [] S
  refine aw_aload_0 hX dX8_ill_0 ?_
  refine aw_iconst hX (v := nI 0) (by decide) dX8_ill_1 ?_
  refine ap_X8_thrown hX fl_X8_57 dX8_ill_2 ?_
  refine aw_S (sN_self h13) ?_
  refine aw_iload_1 hX dX8_ill_5 ?_
  refine cs_X8_isHand hX ml_X8_132 dX8_ill_6 (m_X8_isHand_b _ G S _ false h) (Nat.le_of_ble_eq_true rfl) ?_
  first | with_reducible refine aw_ifneB hX (tgt := 14) dX8_ill_9 (by decide) (fun c_9 => ?_) (fun c_9 => ?_) | refine aw_ifne hX (tgt := 14) dX8_ill_9 (by decide) (fun c_9 => ?_) (fun c_9 => ?_)
  · cases c_9
  · skip
    refine aw_iconst hX (v := (-1)) (by decide) dX8_ill_12 ?_
    refine aw_finI (hR _ _ dX8_ill_13) ?_ ?_
    · rfl
    · rfl
set_option maxHeartbeats 4000000 in
set_option maxRecDepth 100000 in
theorem m_X8_ill_true (d : Nat) (G : GT) (S : St) (h13 : S.1 13 = 0) (k : Nat) (hk : k < 4) (b : Bool) (ha : S.2.1 56 k = bI true) : rX8_ill G (d + 3) [.ref (gad G 8), .int (nI k), .int (bI b)] S (some (.int (bI true))) (sA S 56 k (bI b)) := by
  refine runs_I (d := (d + 2)) (by decide) (Nat.le_of_ble_eq_true rfl) (fun X (hX : XC X G (d + 2) RX8 cX8_ill 4) hR => ?_)
  show AW X G 0 [.ref (gad G 8), .int (nI k), .int (bI b), .null] [] S
  refine aw_aload_0 hX dX8_ill_0 ?_
  refine aw_iconst hX (v := nI 0) (by decide) dX8_ill_1 ?_
  refine ap_X8_thrown hX fl_X8_57 dX8_ill_2 ?_
  refine aw_S (sN_self h13) ?_
  refine aw_iload_1 hX dX8_ill_5 ?_
  refine cs_X8_isHand hX ml_X8_132 dX8_ill_6 (m_X8_isHand_b _ G S _ true (by rw [inR_nI (by omega) (by omega) (by omega)]; simp; omega)) (Nat.le_of_ble_eq_true rfl) ?_
  first | with_reducible refine aw_ifneB hX (tgt := 14) dX8_ill_9 (by decide) (fun c_9 => ?_) (fun c_9 => ?_) | refine aw_ifne hX (tgt := 14) dX8_ill_9 (by decide) (fun c_9 => ?_) (fun c_9 => ?_)
  · skip
    refine aw_aload_0 hX dX8_ill_14 ?_
    refine ag_X8_isIll hX fl_X8_44 dX8_ill_15 ?_
    refine aw_iload_1 hX dX8_ill_18 ?_
    refine aw_zald hX dX8_ill_19 rfl (by decide) (by omega) ?_
    refine aw_ti ha ?_
    first | with_reducible refine aw_ifeqB hX (tgt := 27) dX8_ill_20 (by decide) (fun c_20 => ?_) (fun c_20 => ?_) | refine aw_ifeq hX (tgt := 27) dX8_ill_20 (by decide) (fun c_20 => ?_) (fun c_20 => ?_)
    · cases c_20
    · skip
      refine aw_iconst hX (v := nI 1) (by decide) dX8_ill_23 ?_
      refine aw_goto hX (tgt := 28) dX8_ill_24 (by decide) ?_
      refine aw_istore_3 hX rfl (by decide) dX8_ill_28 ?_
      refine aw_aload_0 hX dX8_ill_29 ?_
      refine ag_X8_isIll hX fl_X8_44 dX8_ill_30 ?_
      refine aw_iload_1 hX dX8_ill_33 ?_
      refine aw_iload_2 hX dX8_ill_34 ?_
      refine aw_zast hX dX8_ill_35 rfl (fun _ => rfl) (by decide) (by omega) ?_
      refine aw_iload_3 hX dX8_ill_36 ?_
      refine aw_finI (hR _ _ dX8_ill_37) ?_ ?_
      · rfl
      · rfl
  · cases c_9
set_option maxHeartbeats 4000000 in
set_option maxRecDepth 100000 in
theorem m_X8_ill_false (d : Nat) (G : GT) (S : St) (h13 : S.1 13 = 0) (k : Nat) (hk : k < 4) (b : Bool) (ha : S.2.1 56 k = bI false) : rX8_ill G (d + 3) [.ref (gad G 8), .int (nI k), .int (bI b)] S (some (.int (bI false))) (sA S 56 k (bI b)) := by
  refine runs_I (d := (d + 2)) (by decide) (Nat.le_of_ble_eq_true rfl) (fun X (hX : XC X G (d + 2) RX8 cX8_ill 4) hR => ?_)
  show AW X G 0 [.ref (gad G 8), .int (nI k), .int (bI b), .null] [] S
  refine aw_aload_0 hX dX8_ill_0 ?_
  refine aw_iconst hX (v := nI 0) (by decide) dX8_ill_1 ?_
  refine ap_X8_thrown hX fl_X8_57 dX8_ill_2 ?_
  refine aw_S (sN_self h13) ?_
  refine aw_iload_1 hX dX8_ill_5 ?_
  refine cs_X8_isHand hX ml_X8_132 dX8_ill_6 (m_X8_isHand_b _ G S _ true (by rw [inR_nI (by omega) (by omega) (by omega)]; simp; omega)) (Nat.le_of_ble_eq_true rfl) ?_
  first | with_reducible refine aw_ifneB hX (tgt := 14) dX8_ill_9 (by decide) (fun c_9 => ?_) (fun c_9 => ?_) | refine aw_ifne hX (tgt := 14) dX8_ill_9 (by decide) (fun c_9 => ?_) (fun c_9 => ?_)
  · skip
    refine aw_aload_0 hX dX8_ill_14 ?_
    refine ag_X8_isIll hX fl_X8_44 dX8_ill_15 ?_
    refine aw_iload_1 hX dX8_ill_18 ?_
    refine aw_zald hX dX8_ill_19 rfl (by decide) (by omega) ?_
    refine aw_ti ha ?_
    first | with_reducible refine aw_ifeqB hX (tgt := 27) dX8_ill_20 (by decide) (fun c_20 => ?_) (fun c_20 => ?_) | refine aw_ifeq hX (tgt := 27) dX8_ill_20 (by decide) (fun c_20 => ?_) (fun c_20 => ?_)
    · skip
      refine aw_iconst hX (v := nI 0) (by decide) dX8_ill_27 ?_
      refine aw_istore_3 hX rfl (by decide) dX8_ill_28 ?_
      refine aw_aload_0 hX dX8_ill_29 ?_
      refine ag_X8_isIll hX fl_X8_44 dX8_ill_30 ?_
      refine aw_iload_1 hX dX8_ill_33 ?_
      refine aw_iload_2 hX dX8_ill_34 ?_
      refine aw_zast hX dX8_ill_35 rfl (fun _ => rfl) (by decide) (by omega) ?_
      refine aw_iload_3 hX dX8_ill_36 ?_
      refine aw_finI (hR _ _ dX8_ill_37) ?_ ?_
      · rfl
      · rfl
    · cases c_20
  · cases c_9
set_option maxHeartbeats 4000000 in
set_option maxRecDepth 100000 in
theorem m_X8_fees_bad (d : Nat) (G : GT) (S : St) (h13 : S.1 13 = 0) (hd w : Int32) (h : (inR hd (nI 0) (nI 3) && inR w (nI 0) (nI 1)) = false) : rX8_fees G (d + 3) [.ref (gad G 8), .int hd, .int w] S (some (.int (-1))) S := by
  refine runs_I (d := (d + 2)) (by decide) (Nat.le_of_ble_eq_true rfl) (fun X (hX : XC X G (d + 2) RX8 cX8_fees 5) hR => ?_)
  show AW X G 0 [.ref (gad G 8), .int hd, .int w, .null, .null] [] S
  refine aw_aload_0 hX dX8_fees_0 ?_
  refine aw_iconst hX (v := nI 0) (by decide) dX8_fees_1 ?_
  refine ap_X8_thrown hX fl_X8_57 dX8_fees_2 ?_
  refine aw_S (sN_self h13) ?_
  refine aw_iload_1 hX dX8_fees_5 ?_
  refine cs_X8_isHand hX ml_X8_132 dX8_fees_6 (m_X8_isHand _ G S _) (Nat.le_of_ble_eq_true rfl) ?_
  first | with_reducible refine aw_ifeqB hX (tgt := 21) dX8_fees_9 (by decide) (fun c_9 => ?_) (fun c_9 => ?_) | refine aw_ifeq hX (tgt := 21) dX8_fees_9 (by decide) (fun c_9 => ?_) (fun c_9 => ?_)
  · skip
    refine aw_iconst hX (v := (-1)) (by decide) dX8_fees_21 ?_
    refine aw_finI (hR _ _ dX8_fees_22) ?_ ?_
    · rfl
    · rfl
  · skip
    refine aw_iload_2 hX dX8_fees_12 ?_
    refine aw_iconst hX (v := nI 0) (by decide) dX8_fees_13 ?_
    refine aw_iconst hX (v := nI 1) (by decide) dX8_fees_14 ?_
    refine cs_X8_in hX ml_X8_60 dX8_fees_15 (m_X8_in _ G S _ _ _) (Nat.le_of_ble_eq_true rfl) ?_
    first | with_reducible refine aw_ifneB hX (tgt := 23) dX8_fees_18 (by decide) (fun c_18 => ?_) (fun c_18 => ?_) | refine aw_ifne hX (tgt := 23) dX8_fees_18 (by decide) (fun c_18 => ?_) (fun c_18 => ?_)
    · simp [c_9, c_18] at h
    · skip
      refine aw_iconst hX (v := (-1)) (by decide) dX8_fees_21 ?_
      refine aw_finI (hR _ _ dX8_fees_22) ?_ ?_
      · rfl
      · rfl
set_option maxHeartbeats 4000000 in
set_option maxRecDepth 100000 in
theorem m_X8_fees_0 (d : Nat) (G : GT) (S : St) (h13 : S.1 13 = 0) (hd : Int32) (h : inR hd (nI 0) (nI 3) = true) (hs : S.1 21 ≤ 100) : rX8_fees G (d + 3) [.ref (gad G 8), .int hd, .int (nI 0)] S (some (.int (erL (fun k => S.2.1 55 (4 * k + 2)) (fun k => S.2.1 55 (4 * k + 3)) hd (S.1 21)))) S := by
  refine runs_I (d := (d + 2)) (by decide) (Nat.le_of_ble_eq_true rfl) (fun X (hX : XC X G (d + 2) RX8 cX8_fees 5) hR => ?_)
  show AW X G 0 [.ref (gad G 8), .int hd, .int (nI 0), .null, .null] [] S
  have loop : ∀ n i : Nat, i + n = S.1 21 → ∀ (v : Int32), v = erL (fun k => S.2.1 55 (4 * k + 2)) (fun k => S.2.1 55 (4 * k + 3)) hd i → AW X G 28 [.ref (gad G 8), .int hd, .int (nI 0), .int v, .int (nI i)] [] S := by
    intro n
    induction n with
    | zero =>
      intro i hi v hp
      refine aw_iload_4 hX dX8_fees_28 ?_
      refine aw_aload_0 hX dX8_fees_30 ?_
      refine ag_X8_sweeps hX fl_X8_126 dX8_fees_31 ?_
      first | with_reducible refine aw_icmpgeN hX (tgt := 84) dX8_fees_34 (by decide) (by omega) (by omega) (fun c_34 => ?_) (fun c_34 => ?_) | refine aw_jge hX (tgt := 84) dX8_fees_34 (by decide) (fun c_34 => ?_) (fun c_34 => ?_)
      · skip
        refine aw_iload_3 hX dX8_fees_84 ?_
        refine aw_finI (hR _ _ dX8_fees_85) ?_ ?_
        · rw [show S.1 21 = i by omega, ← hp]
        · rfl
      · exact absurd c_34 (by omega)
    | succ n ih =>
      intro i hi v hp
      refine aw_iload_4 hX dX8_fees_28 ?_
      refine aw_aload_0 hX dX8_fees_30 ?_
      refine ag_X8_sweeps hX fl_X8_126 dX8_fees_31 ?_
      first | with_reducible refine aw_icmpgeN hX (tgt := 84) dX8_fees_34 (by decide) (by omega) (by omega) (fun c_34 => ?_) (fun c_34 => ?_) | refine aw_jge hX (tgt := 84) dX8_fees_34 (by decide) (fun c_34 => ?_) (fun c_34 => ?_)
      · exact absurd c_34 (by omega)
      · skip
        refine aw_iload_3 hX dX8_fees_37 ?_
        refine aw_aload_0 hX dX8_fees_38 ?_
        refine ag_X8_sweep hX fl_X8_37 dX8_fees_39 ?_
        refine aw_iconst hX (v := nI 4) (by decide) dX8_fees_42 ?_
        refine aw_iload_4 hX dX8_fees_43 ?_
        first | with_reducible refine aw_imulN hX dX8_fees_45 ?_ | refine aw_imul hX dX8_fees_45 ?_
        refine aw_iconst hX (v := nI 2) (by decide) dX8_fees_46 ?_
        first | with_reducible refine aw_iaddN hX dX8_fees_47 ?_ | refine aw_iadd hX dX8_fees_47 ?_
        refine aw_iald hX dX8_fees_48 rfl (by decide) (by omega) ?_
        refine aw_iload_1 hX dX8_fees_49 ?_
        first | with_reducible refine aw_icmpeqN hX (tgt := 57) dX8_fees_50 (by decide) (by omega) (by omega) (fun c_50 => ?_) (fun c_50 => ?_) | refine aw_icmpeq hX (tgt := 57) dX8_fees_50 (by decide) (fun c_50 => ?_) (fun c_50 => ?_)
        · skip
          refine aw_iload_2 hX dX8_fees_57 ?_
          first | with_reducible refine aw_ifneB hX (tgt := 75) dX8_fees_58 (by decide) (fun c_58 => ?_) (fun c_58 => ?_) | refine aw_ifne hX (tgt := 75) dX8_fees_58 (by decide) (fun c_58 => ?_) (fun c_58 => ?_)
          · exact absurd rfl c_58
          · skip
            refine aw_aload_0 hX dX8_fees_61 ?_
            refine ag_X8_sweep hX fl_X8_37 dX8_fees_62 ?_
            refine aw_iconst hX (v := nI 4) (by decide) dX8_fees_65 ?_
            refine aw_iload_4 hX dX8_fees_66 ?_
            first | with_reducible refine aw_imulN hX dX8_fees_68 ?_ | refine aw_imul hX dX8_fees_68 ?_
            refine aw_iconst hX (v := nI 3) (by decide) dX8_fees_69 ?_
            first | with_reducible refine aw_iaddN hX dX8_fees_70 ?_ | refine aw_iadd hX dX8_fees_70 ?_
            refine aw_iald hX dX8_fees_71 rfl (by decide) (by omega) ?_
            refine aw_goto hX (tgt := 76) dX8_fees_72 (by decide) ?_
            refine aw_iadd hX dX8_fees_76 ?_
            refine aw_istore_3 hX rfl (by decide) dX8_fees_77 ?_
            first | with_reducible refine aw_iinc_4N hX rfl (by decide) dX8_fees_78 ?_ | refine aw_iinc_4 hX rfl (by decide) dX8_fees_78 ?_
            refine aw_goto hX (tgt := 28) dX8_fees_81 (by decide) ?_
            exact ih (i + 1) (by omega) _ (by simp only [erL, ← hp]; simp [nI0, c_34, c_50, c_58])
        · skip
          refine aw_iconst hX (v := nI 0) (by decide) dX8_fees_53 ?_
          refine aw_goto hX (tgt := 76) dX8_fees_54 (by decide) ?_
          refine aw_iadd hX dX8_fees_76 ?_
          refine aw_istore_3 hX rfl (by decide) dX8_fees_77 ?_
          first | with_reducible refine aw_iinc_4N hX rfl (by decide) dX8_fees_78 ?_ | refine aw_iinc_4 hX rfl (by decide) dX8_fees_78 ?_
          refine aw_goto hX (tgt := 28) dX8_fees_81 (by decide) ?_
          exact ih (i + 1) (by omega) _ (by simp only [erL, ← hp]; simp [nI0, c_34, c_50])
  refine aw_aload_0 hX dX8_fees_0 ?_
  refine aw_iconst hX (v := nI 0) (by decide) dX8_fees_1 ?_
  refine ap_X8_thrown hX fl_X8_57 dX8_fees_2 ?_
  refine aw_S (sN_self h13) ?_
  refine aw_iload_1 hX dX8_fees_5 ?_
  refine cs_X8_isHand hX ml_X8_132 dX8_fees_6 (m_X8_isHand_b _ G S _ true h) (Nat.le_of_ble_eq_true rfl) ?_
  first | with_reducible refine aw_ifeqB hX (tgt := 21) dX8_fees_9 (by decide) (fun c_9 => ?_) (fun c_9 => ?_) | refine aw_ifeq hX (tgt := 21) dX8_fees_9 (by decide) (fun c_9 => ?_) (fun c_9 => ?_)
  · cases c_9
  · skip
    refine aw_iload_2 hX dX8_fees_12 ?_
    refine aw_iconst hX (v := nI 0) (by decide) dX8_fees_13 ?_
    refine aw_iconst hX (v := nI 1) (by decide) dX8_fees_14 ?_
    refine cs_X8_in hX ml_X8_60 dX8_fees_15 (m_X8_in_b _ G S _ _ _ true (by decide)) (Nat.le_of_ble_eq_true rfl) ?_
    first | with_reducible refine aw_ifneB hX (tgt := 23) dX8_fees_18 (by decide) (fun c_18 => ?_) (fun c_18 => ?_) | refine aw_ifne hX (tgt := 23) dX8_fees_18 (by decide) (fun c_18 => ?_) (fun c_18 => ?_)
    · skip
      refine aw_iconst hX (v := nI 0) (by decide) dX8_fees_23 ?_
      refine aw_istore_3 hX rfl (by decide) dX8_fees_24 ?_
      refine aw_iconst hX (v := nI 0) (by decide) dX8_fees_25 ?_
      refine aw_istore_4 hX rfl (by decide) dX8_fees_26 ?_
      exact loop (S.1 21) 0 (by omega) _ rfl
    · cases c_18
set_option maxHeartbeats 4000000 in
set_option maxRecDepth 100000 in
theorem m_X8_fees_1 (d : Nat) (G : GT) (S : St) (h13 : S.1 13 = 0) (hd : Int32) (h : inR hd (nI 0) (nI 3) = true) (hs : S.1 21 ≤ 100) : rX8_fees G (d + 3) [.ref (gad G 8), .int hd, .int (nI 1)] S (some (.int (erL (fun k => S.2.1 55 (4 * k + 2)) (fun _ => nI 1) hd (S.1 21)))) S := by
  refine runs_I (d := (d + 2)) (by decide) (Nat.le_of_ble_eq_true rfl) (fun X (hX : XC X G (d + 2) RX8 cX8_fees 5) hR => ?_)
  show AW X G 0 [.ref (gad G 8), .int hd, .int (nI 1), .null, .null] [] S
  have loop : ∀ n i : Nat, i + n = S.1 21 → ∀ (v : Int32), v = erL (fun k => S.2.1 55 (4 * k + 2)) (fun _ => nI 1) hd i → AW X G 28 [.ref (gad G 8), .int hd, .int (nI 1), .int v, .int (nI i)] [] S := by
    intro n
    induction n with
    | zero =>
      intro i hi v hp
      refine aw_iload_4 hX dX8_fees_28 ?_
      refine aw_aload_0 hX dX8_fees_30 ?_
      refine ag_X8_sweeps hX fl_X8_126 dX8_fees_31 ?_
      first | with_reducible refine aw_icmpgeN hX (tgt := 84) dX8_fees_34 (by decide) (by omega) (by omega) (fun c_34 => ?_) (fun c_34 => ?_) | refine aw_jge hX (tgt := 84) dX8_fees_34 (by decide) (fun c_34 => ?_) (fun c_34 => ?_)
      · skip
        refine aw_iload_3 hX dX8_fees_84 ?_
        refine aw_finI (hR _ _ dX8_fees_85) ?_ ?_
        · rw [show S.1 21 = i by omega, ← hp]
        · rfl
      · exact absurd c_34 (by omega)
    | succ n ih =>
      intro i hi v hp
      refine aw_iload_4 hX dX8_fees_28 ?_
      refine aw_aload_0 hX dX8_fees_30 ?_
      refine ag_X8_sweeps hX fl_X8_126 dX8_fees_31 ?_
      first | with_reducible refine aw_icmpgeN hX (tgt := 84) dX8_fees_34 (by decide) (by omega) (by omega) (fun c_34 => ?_) (fun c_34 => ?_) | refine aw_jge hX (tgt := 84) dX8_fees_34 (by decide) (fun c_34 => ?_) (fun c_34 => ?_)
      · exact absurd c_34 (by omega)
      · skip
        refine aw_iload_3 hX dX8_fees_37 ?_
        refine aw_aload_0 hX dX8_fees_38 ?_
        refine ag_X8_sweep hX fl_X8_37 dX8_fees_39 ?_
        refine aw_iconst hX (v := nI 4) (by decide) dX8_fees_42 ?_
        refine aw_iload_4 hX dX8_fees_43 ?_
        first | with_reducible refine aw_imulN hX dX8_fees_45 ?_ | refine aw_imul hX dX8_fees_45 ?_
        refine aw_iconst hX (v := nI 2) (by decide) dX8_fees_46 ?_
        first | with_reducible refine aw_iaddN hX dX8_fees_47 ?_ | refine aw_iadd hX dX8_fees_47 ?_
        refine aw_iald hX dX8_fees_48 rfl (by decide) (by omega) ?_
        refine aw_iload_1 hX dX8_fees_49 ?_
        first | with_reducible refine aw_icmpeqN hX (tgt := 57) dX8_fees_50 (by decide) (by omega) (by omega) (fun c_50 => ?_) (fun c_50 => ?_) | refine aw_icmpeq hX (tgt := 57) dX8_fees_50 (by decide) (fun c_50 => ?_) (fun c_50 => ?_)
        · skip
          refine aw_iload_2 hX dX8_fees_57 ?_
          first | with_reducible refine aw_ifneB hX (tgt := 75) dX8_fees_58 (by decide) (fun c_58 => ?_) (fun c_58 => ?_) | refine aw_ifne hX (tgt := 75) dX8_fees_58 (by decide) (fun c_58 => ?_) (fun c_58 => ?_)
          · skip
            refine aw_iconst hX (v := nI 1) (by decide) dX8_fees_75 ?_
            refine aw_iadd hX dX8_fees_76 ?_
            refine aw_istore_3 hX rfl (by decide) dX8_fees_77 ?_
            first | with_reducible refine aw_iinc_4N hX rfl (by decide) dX8_fees_78 ?_ | refine aw_iinc_4 hX rfl (by decide) dX8_fees_78 ?_
            refine aw_goto hX (tgt := 28) dX8_fees_81 (by decide) ?_
            exact ih (i + 1) (by omega) _ (by simp only [erL, ← hp]; simp [nI0, c_34, c_50, c_58])
          · exact absurd c_58 (by decide)
        · skip
          refine aw_iconst hX (v := nI 0) (by decide) dX8_fees_53 ?_
          refine aw_goto hX (tgt := 76) dX8_fees_54 (by decide) ?_
          refine aw_iadd hX dX8_fees_76 ?_
          refine aw_istore_3 hX rfl (by decide) dX8_fees_77 ?_
          first | with_reducible refine aw_iinc_4N hX rfl (by decide) dX8_fees_78 ?_ | refine aw_iinc_4 hX rfl (by decide) dX8_fees_78 ?_
          refine aw_goto hX (tgt := 28) dX8_fees_81 (by decide) ?_
          exact ih (i + 1) (by omega) _ (by simp only [erL, ← hp]; simp [nI0, c_34, c_50])
  refine aw_aload_0 hX dX8_fees_0 ?_
  refine aw_iconst hX (v := nI 0) (by decide) dX8_fees_1 ?_
  refine ap_X8_thrown hX fl_X8_57 dX8_fees_2 ?_
  refine aw_S (sN_self h13) ?_
  refine aw_iload_1 hX dX8_fees_5 ?_
  refine cs_X8_isHand hX ml_X8_132 dX8_fees_6 (m_X8_isHand_b _ G S _ true h) (Nat.le_of_ble_eq_true rfl) ?_
  first | with_reducible refine aw_ifeqB hX (tgt := 21) dX8_fees_9 (by decide) (fun c_9 => ?_) (fun c_9 => ?_) | refine aw_ifeq hX (tgt := 21) dX8_fees_9 (by decide) (fun c_9 => ?_) (fun c_9 => ?_)
  · cases c_9
  · skip
    refine aw_iload_2 hX dX8_fees_12 ?_
    refine aw_iconst hX (v := nI 0) (by decide) dX8_fees_13 ?_
    refine aw_iconst hX (v := nI 1) (by decide) dX8_fees_14 ?_
    refine cs_X8_in hX ml_X8_60 dX8_fees_15 (m_X8_in_b _ G S _ _ _ true (by decide)) (Nat.le_of_ble_eq_true rfl) ?_
    first | with_reducible refine aw_ifneB hX (tgt := 23) dX8_fees_18 (by decide) (fun c_18 => ?_) (fun c_18 => ?_) | refine aw_ifne hX (tgt := 23) dX8_fees_18 (by decide) (fun c_18 => ?_) (fun c_18 => ?_)
    · skip
      refine aw_iconst hX (v := nI 0) (by decide) dX8_fees_23 ?_
      refine aw_istore_3 hX rfl (by decide) dX8_fees_24 ?_
      refine aw_iconst hX (v := nI 0) (by decide) dX8_fees_25 ?_
      refine aw_istore_4 hX rfl (by decide) dX8_fees_26 ?_
      exact loop (S.1 21) 0 (by omega) _ rfl
    · cases c_18
set_option maxHeartbeats 4000000 in
set_option maxRecDepth 100000 in
theorem m_X8_at_bad (d : Nat) (G : GT) (S : St) (h13 : S.1 13 = 0) (n : Int32) (h : inR n (nI 0) (nI 6) = false) : rX8_at G (d + 2) [.ref (gad G 8), .int n] S (some (.int (-1))) S := by
  refine runs_I (d := (d + 1)) (by decide) (Nat.le_of_ble_eq_true rfl) (fun X (hX : XC X G (d + 1) RX8 cX8_at 2) hR => ?_)
  show AW X G 0 [.ref (gad G 8), .int n] [] S
  refine aw_aload_0 hX dX8_at_0 ?_
  refine aw_iconst hX (v := nI 0) (by decide) dX8_at_1 ?_
  refine ap_X8_thrown hX fl_X8_57 dX8_at_2 ?_
  refine aw_S (sN_self h13) ?_
  refine aw_iload_1 hX dX8_at_5 ?_
  refine aw_iconst hX (v := nI 0) (by decide) dX8_at_6 ?_
  refine aw_bipush hX (v := nI 6) (by decide) dX8_at_7 ?_
  refine cs_X8_in hX ml_X8_60 dX8_at_9 (m_X8_in_b _ G S _ _ _ false h) (Nat.le_of_ble_eq_true rfl) ?_
  first | with_reducible refine aw_ifneB hX (tgt := 17) dX8_at_12 (by decide) (fun c_12 => ?_) (fun c_12 => ?_) | refine aw_ifne hX (tgt := 17) dX8_at_12 (by decide) (fun c_12 => ?_) (fun c_12 => ?_)
  · cases c_12
  · skip
    refine aw_iconst hX (v := (-1)) (by decide) dX8_at_15 ?_
    refine aw_finI (hR _ _ dX8_at_16) ?_ ?_
    · rfl
    · rfl
set_option maxHeartbeats 4000000 in
set_option maxRecDepth 100000 in
theorem m_X8_at_6 (d : Nat) (G : GT) (S : St) (h13 : S.1 13 = 0)  : rX8_at G (d + 2) [.ref (gad G 8), .int (nI 6)] S (some (.int (nI (S.1 24)))) S := by
  refine runs_I (d := (d + 1)) (by decide) (Nat.le_of_ble_eq_true rfl) (fun X (hX : XC X G (d + 1) RX8 cX8_at 2) hR => ?_)
  show AW X G 0 [.ref (gad G 8), .int (nI 6)] [] S
  refine aw_aload_0 hX dX8_at_0 ?_
  refine aw_iconst hX (v := nI 0) (by decide) dX8_at_1 ?_
  refine ap_X8_thrown hX fl_X8_57 dX8_at_2 ?_
  refine aw_S (sN_self h13) ?_
  refine aw_iload_1 hX dX8_at_5 ?_
  refine aw_iconst hX (v := nI 0) (by decide) dX8_at_6 ?_
  refine aw_bipush hX (v := nI 6) (by decide) dX8_at_7 ?_
  refine cs_X8_in hX ml_X8_60 dX8_at_9 (m_X8_in_b _ G S _ _ _ true (by decide)) (Nat.le_of_ble_eq_true rfl) ?_
  first | with_reducible refine aw_ifneB hX (tgt := 17) dX8_at_12 (by decide) (fun c_12 => ?_) (fun c_12 => ?_) | refine aw_ifne hX (tgt := 17) dX8_at_12 (by decide) (fun c_12 => ?_) (fun c_12 => ?_)
  · skip
    refine aw_iload_1 hX dX8_at_17 ?_
    refine aw_bipush hX (v := nI 6) (by decide) dX8_at_18 ?_
    first | with_reducible refine aw_icmpneN hX (tgt := 30) dX8_at_20 (by decide) (by omega) (by omega) (fun c_20 => ?_) (fun c_20 => ?_) | refine aw_icmpne hX (tgt := 30) dX8_at_20 (by decide) (fun c_20 => ?_) (fun c_20 => ?_)
    · exact absurd rfl c_20
    · skip
      refine aw_aload_0 hX dX8_at_23 ?_
      refine ag_X8_way hX fl_X8_139 dX8_at_24 ?_
      refine aw_goto hX (tgt := 49) dX8_at_27 (by decide) ?_
      refine aw_finI (hR _ _ dX8_at_49) ?_ ?_
      · rfl
      · rfl
  · cases c_12
set_option maxHeartbeats 4000000 in
set_option maxRecDepth 100000 in
theorem m_X8_at_ok (d : Nat) (G : GT) (S : St) (h13 : S.1 13 = 0) (k : Nat) (hk : k < 6) (hs : S.1 23 ≤ 6) : rX8_at G (d + 2) [.ref (gad G 8), .int (nI k)] S (some (.int (if k < S.1 23 then S.2.1 57 k else -9))) S := by
  refine runs_I (d := (d + 1)) (by decide) (Nat.le_of_ble_eq_true rfl) (fun X (hX : XC X G (d + 1) RX8 cX8_at 2) hR => ?_)
  show AW X G 0 [.ref (gad G 8), .int (nI k)] [] S
  refine aw_aload_0 hX dX8_at_0 ?_
  refine aw_iconst hX (v := nI 0) (by decide) dX8_at_1 ?_
  refine ap_X8_thrown hX fl_X8_57 dX8_at_2 ?_
  refine aw_S (sN_self h13) ?_
  refine aw_iload_1 hX dX8_at_5 ?_
  refine aw_iconst hX (v := nI 0) (by decide) dX8_at_6 ?_
  refine aw_bipush hX (v := nI 6) (by decide) dX8_at_7 ?_
  refine cs_X8_in hX ml_X8_60 dX8_at_9 (m_X8_in_b _ G S _ _ _ true (by rw [inR_nI (by omega) (by omega) (by omega)]; simp; omega)) (Nat.le_of_ble_eq_true rfl) ?_
  first | with_reducible refine aw_ifneB hX (tgt := 17) dX8_at_12 (by decide) (fun c_12 => ?_) (fun c_12 => ?_) | refine aw_ifne hX (tgt := 17) dX8_at_12 (by decide) (fun c_12 => ?_) (fun c_12 => ?_)
  · skip
    refine aw_iload_1 hX dX8_at_17 ?_
    refine aw_bipush hX (v := nI 6) (by decide) dX8_at_18 ?_
    first | with_reducible refine aw_icmpneN hX (tgt := 30) dX8_at_20 (by decide) (by omega) (by omega) (fun c_20 => ?_) (fun c_20 => ?_) | refine aw_icmpne hX (tgt := 30) dX8_at_20 (by decide) (fun c_20 => ?_) (fun c_20 => ?_)
    · skip
      refine aw_iload_1 hX dX8_at_30 ?_
      refine aw_aload_0 hX dX8_at_31 ?_
      refine ag_X8_roundMany hX fl_X8_135 dX8_at_32 ?_
      first | with_reducible refine aw_icmpgeN hX (tgt := 47) dX8_at_35 (by decide) (by omega) (by omega) (fun c_35 => ?_) (fun c_35 => ?_) | refine aw_jge hX (tgt := 47) dX8_at_35 (by decide) (fun c_35 => ?_) (fun c_35 => ?_)
      · rw [if_neg (by omega)] at hR
        refine aw_bipush hX (v := (-9)) (by decide) dX8_at_47 ?_
        refine aw_finI (hR _ _ dX8_at_49) ?_ ?_
        · rfl
        · rfl
      · rw [if_pos (by omega)] at hR
        refine aw_aload_0 hX dX8_at_38 ?_
        refine ag_X8_row hX fl_X8_48 dX8_at_39 ?_
        refine aw_iload_1 hX dX8_at_42 ?_
        refine aw_iald hX dX8_at_43 rfl (by decide) (by omega) ?_
        refine aw_goto hX (tgt := 49) dX8_at_44 (by decide) ?_
        refine aw_finI (hR _ _ dX8_at_49) ?_ ?_
        · rfl
        · rfl
    · exact absurd c_20 (by omega)
  · cases c_12
set_option maxHeartbeats 4000000 in
set_option maxRecDepth 100000 in
theorem m_X8_count_0 (d : Nat) (G : GT) (S : St) (h13 : S.1 13 = 0)  : rX8_count G (d + 1) [.ref (gad G 8), .int (nI 0)] S (some (.int (nI (S.1 18)))) S := by
  refine runs_I (d := d) (by decide) (Nat.le_of_ble_eq_true rfl) (fun X (hX : XC X G d RX8 cX8_count 2) hR => ?_)
  show AW X G 0 [.ref (gad G 8), .int (nI 0)] [] S
  refine aw_aload_0 hX dX8_count_0 ?_
  refine aw_iconst hX (v := nI 0) (by decide) dX8_count_1 ?_
  refine ap_X8_thrown hX fl_X8_57 dX8_count_2 ?_
  refine aw_S (sN_self h13) ?_
  refine aw_iload_1 hX dX8_count_5 ?_
  refine aw_tabIn hX (x := nI 0) (off := 42) (tgt := 48) dX8_count_6 (by decide) (by decide) (by decide) (by decide) ?_
  refine aw_aload_0 hX dX8_count_48 ?_
  refine ag_X8_flues hX fl_X8_93 dX8_count_49 ?_
  refine aw_finI (hR _ _ dX8_count_52) ?_ ?_
  · rfl
  · rfl
set_option maxHeartbeats 4000000 in
set_option maxRecDepth 100000 in
theorem m_X8_count_1 (d : Nat) (G : GT) (S : St) (h13 : S.1 13 = 0)  : rX8_count G (d + 1) [.ref (gad G 8), .int (nI 1)] S (some (.int (nI (S.1 14)))) S := by
  refine runs_I (d := d) (by decide) (Nat.le_of_ble_eq_true rfl) (fun X (hX : XC X G d RX8 cX8_count 2) hR => ?_)
  show AW X G 0 [.ref (gad G 8), .int (nI 1)] [] S
  refine aw_aload_0 hX dX8_count_0 ?_
  refine aw_iconst hX (v := nI 0) (by decide) dX8_count_1 ?_
  refine ap_X8_thrown hX fl_X8_57 dX8_count_2 ?_
  refine aw_S (sN_self h13) ?_
  refine aw_iload_1 hX dX8_count_5 ?_
  refine aw_tabIn hX (x := nI 1) (off := 47) (tgt := 53) dX8_count_6 (by decide) (by decide) (by decide) (by decide) ?_
  refine aw_aload_0 hX dX8_count_53 ?_
  refine ag_X8_today hX fl_X8_86 dX8_count_54 ?_
  refine aw_finI (hR _ _ dX8_count_57) ?_ ?_
  · rfl
  · rfl
set_option maxHeartbeats 4000000 in
set_option maxRecDepth 100000 in
theorem m_X8_count_2 (d : Nat) (G : GT) (S : St) (h13 : S.1 13 = 0)  : rX8_count G (d + 1) [.ref (gad G 8), .int (nI 2)] S (some (.int (nI (S.1 15)))) S := by
  refine runs_I (d := d) (by decide) (Nat.le_of_ble_eq_true rfl) (fun X (hX : XC X G d RX8 cX8_count 2) hR => ?_)
  show AW X G 0 [.ref (gad G 8), .int (nI 2)] [] S
  refine aw_aload_0 hX dX8_count_0 ?_
  refine aw_iconst hX (v := nI 0) (by decide) dX8_count_1 ?_
  refine ap_X8_thrown hX fl_X8_57 dX8_count_2 ?_
  refine aw_S (sN_self h13) ?_
  refine aw_iload_1 hX dX8_count_5 ?_
  refine aw_tabIn hX (x := nI 2) (off := 52) (tgt := 58) dX8_count_6 (by decide) (by decide) (by decide) (by decide) ?_
  refine aw_aload_0 hX dX8_count_58 ?_
  refine ag_X8_drafted hX fl_X8_64 dX8_count_59 ?_
  refine aw_finI (hR _ _ dX8_count_62) ?_ ?_
  · rfl
  · rfl
set_option maxHeartbeats 4000000 in
set_option maxRecDepth 100000 in
theorem m_X8_count_3 (d : Nat) (G : GT) (S : St) (h13 : S.1 13 = 0)  : rX8_count G (d + 1) [.ref (gad G 8), .int (nI 3)] S (some (.int (nI (S.1 16)))) S := by
  refine runs_I (d := d) (by decide) (Nat.le_of_ble_eq_true rfl) (fun X (hX : XC X G d RX8 cX8_count 2) hR => ?_)
  show AW X G 0 [.ref (gad G 8), .int (nI 3)] [] S
  refine aw_aload_0 hX dX8_count_0 ?_
  refine aw_iconst hX (v := nI 0) (by decide) dX8_count_1 ?_
  refine ap_X8_thrown hX fl_X8_57 dX8_count_2 ?_
  refine aw_S (sN_self h13) ?_
  refine aw_iload_1 hX dX8_count_5 ?_
  refine aw_tabIn hX (x := nI 3) (off := 57) (tgt := 63) dX8_count_6 (by decide) (by decide) (by decide) (by decide) ?_
  refine aw_aload_0 hX dX8_count_63 ?_
  refine ag_X8_laws hX fl_X8_69 dX8_count_64 ?_
  refine aw_finI (hR _ _ dX8_count_67) ?_ ?_
  · rfl
  · rfl
set_option maxHeartbeats 4000000 in
set_option maxRecDepth 100000 in
theorem m_X8_count_4 (d : Nat) (G : GT) (S : St) (h13 : S.1 13 = 0)  : rX8_count G (d + 1) [.ref (gad G 8), .int (nI 4)] S (some (.int (nI (S.1 19)))) S := by
  refine runs_I (d := d) (by decide) (Nat.le_of_ble_eq_true rfl) (fun X (hX : XC X G d RX8 cX8_count 2) hR => ?_)
  show AW X G 0 [.ref (gad G 8), .int (nI 4)] [] S
  refine aw_aload_0 hX dX8_count_0 ?_
  refine aw_iconst hX (v := nI 0) (by decide) dX8_count_1 ?_
  refine ap_X8_thrown hX fl_X8_57 dX8_count_2 ?_
  refine aw_S (sN_self h13) ?_
  refine aw_iload_1 hX dX8_count_5 ?_
  refine aw_tabIn hX (x := nI 4) (off := 62) (tgt := 68) dX8_count_6 (by decide) (by decide) (by decide) (by decide) ?_
  refine aw_aload_0 hX dX8_count_68 ?_
  refine ag_X8_looks hX fl_X8_110 dX8_count_69 ?_
  refine aw_finI (hR _ _ dX8_count_72) ?_ ?_
  · rfl
  · rfl
set_option maxHeartbeats 4000000 in
set_option maxRecDepth 100000 in
theorem m_X8_count_5 (d : Nat) (G : GT) (S : St) (h13 : S.1 13 = 0)  : rX8_count G (d + 1) [.ref (gad G 8), .int (nI 5)] S (some (.int (nI (S.1 20)))) S := by
  refine runs_I (d := d) (by decide) (Nat.le_of_ble_eq_true rfl) (fun X (hX : XC X G d RX8 cX8_count 2) hR => ?_)
  show AW X G 0 [.ref (gad G 8), .int (nI 5)] [] S
  refine aw_aload_0 hX dX8_count_0 ?_
  refine aw_iconst hX (v := nI 0) (by decide) dX8_count_1 ?_
  refine ap_X8_thrown hX fl_X8_57 dX8_count_2 ?_
  refine aw_S (sN_self h13) ?_
  refine aw_iload_1 hX dX8_count_5 ?_
  refine aw_tabIn hX (x := nI 5) (off := 67) (tgt := 73) dX8_count_6 (by decide) (by decide) (by decide) (by decide) ?_
  refine aw_aload_0 hX dX8_count_73 ?_
  refine ag_X8_fires hX fl_X8_129 dX8_count_74 ?_
  refine aw_finI (hR _ _ dX8_count_77) ?_ ?_
  · rfl
  · rfl
set_option maxHeartbeats 4000000 in
set_option maxRecDepth 100000 in
theorem m_X8_count_6 (d : Nat) (G : GT) (S : St) (h13 : S.1 13 = 0)  : rX8_count G (d + 1) [.ref (gad G 8), .int (nI 6)] S (some (.int (nI (S.1 21)))) S := by
  refine runs_I (d := d) (by decide) (Nat.le_of_ble_eq_true rfl) (fun X (hX : XC X G d RX8 cX8_count 2) hR => ?_)
  show AW X G 0 [.ref (gad G 8), .int (nI 6)] [] S
  refine aw_aload_0 hX dX8_count_0 ?_
  refine aw_iconst hX (v := nI 0) (by decide) dX8_count_1 ?_
  refine ap_X8_thrown hX fl_X8_57 dX8_count_2 ?_
  refine aw_S (sN_self h13) ?_
  refine aw_iload_1 hX dX8_count_5 ?_
  refine aw_tabIn hX (x := nI 6) (off := 72) (tgt := 78) dX8_count_6 (by decide) (by decide) (by decide) (by decide) ?_
  refine aw_aload_0 hX dX8_count_78 ?_
  refine ag_X8_sweeps hX fl_X8_126 dX8_count_79 ?_
  refine aw_finI (hR _ _ dX8_count_82) ?_ ?_
  · rfl
  · rfl
set_option maxHeartbeats 4000000 in
set_option maxRecDepth 100000 in
theorem m_X8_count_out (d : Nat) (G : GT) (S : St) (h13 : S.1 13 = 0) (w : Int32) (h : inR w (nI 0) (nI 6) = false) : rX8_count G (d + 1) [.ref (gad G 8), .int w] S (some (.int (-1))) S := by
  refine runs_I (d := d) (by decide) (Nat.le_of_ble_eq_true rfl) (fun X (hX : XC X G d RX8 cX8_count 2) hR => ?_)
  show AW X G 0 [.ref (gad G 8), .int w] [] S
  refine aw_aload_0 hX dX8_count_0 ?_
  refine aw_iconst hX (v := nI 0) (by decide) dX8_count_1 ?_
  refine ap_X8_thrown hX fl_X8_57 dX8_count_2 ?_
  refine aw_S (sN_self h13) ?_
  refine aw_iload_1 hX dX8_count_5 ?_
  refine aw_tabOut hX (tgt := 83) dX8_count_6 (inR_out h (by decide)) (by decide) ?_
  refine aw_iconst hX (v := (-1)) (by decide) dX8_count_83 ?_
  refine aw_finI (hR _ _ dX8_count_84) ?_ ?_
  · rfl
  · rfl
set_option maxHeartbeats 4000000 in
set_option maxRecDepth 100000 in
theorem m_X8_trace (d : Nat) (G : GT) (S : St) (h13 : S.1 13 = 0)  : rX8_trace G (d + 1) [.ref (gad G 8)] S (some (.long (S.2.2.1 1))) S := by
  refine runs_L (d := d) (by decide) (Nat.le_of_ble_eq_true rfl) (fun X (hX : XC X G d RX8 cX8_trace 1) hR => ?_)
  show AW X G 0 [.ref (gad G 8)] [] S
  refine aw_aload_0 hX dX8_trace_0 ?_
  refine aw_iconst hX (v := nI 0) (by decide) dX8_trace_1 ?_
  refine ap_X8_thrown hX fl_X8_57 dX8_trace_2 ?_
  refine aw_S (sN_self h13) ?_
  refine aw_aload_0 hX dX8_trace_5 ?_
  refine ag_X8_trace hX fl_X8_102 dX8_trace_6 ?_
  refine aw_finL (hR _ _ dX8_trace_9) ?_ ?_
  · rfl
  · rfl
