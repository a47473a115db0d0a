set_option maxHeartbeats 4000000 in
set_option maxRecDepth 100000 in
theorem m_X7_within (d : Nat) (G : GT) (S : St) (v lo hi : Int32) : rX7_within G (d + 1) [.int v, .int lo, .int hi] S (some (.int (bI (inR v lo hi)))) S := by
  refine runs_Z (d := d) (by decide) (Nat.le_of_ble_eq_true rfl) (fun X (hX : XC X G d RX7 cX7_within 3) hR => ?_)
  show AW X G 0 [.int v, .int lo, .int hi] [] S
  refine aw_iload_0 hX dX7_within_0 ?_
  refine aw_iload_1 hX dX7_within_1 ?_
  first | with_reducible refine aw_icmpltN hX (tgt := 14) dX7_within_2 (by decide) (by omega) (by omega) (fun c_2 => ?_) (fun c_2 => ?_) | refine aw_jlt hX (tgt := 14) dX7_within_2 (by decide) (fun c_2 => ?_) (fun c_2 => ?_)
  · skip
    refine aw_iconst hX (v := nI 0) (by decide) dX7_within_14 ?_
    refine aw_finI (hR _ _ dX7_within_15) ?_ ?_
    · first | exact bF (by simp [inR, c_2]) | exact bT (by simp [inR, c_2])
    · rfl
  · skip
    refine aw_iload_0 hX dX7_within_5 ?_
    refine aw_iload_2 hX dX7_within_6 ?_
    first | with_reducible refine aw_icmpgtN hX (tgt := 14) dX7_within_7 (by decide) (by omega) (by omega) (fun c_7 => ?_) (fun c_7 => ?_) | refine aw_jgt hX (tgt := 14) dX7_within_7 (by decide) (fun c_7 => ?_) (fun c_7 => ?_)
    · skip
      refine aw_iconst hX (v := nI 0) (by decide) dX7_within_14 ?_
      refine aw_finI (hR _ _ dX7_within_15) ?_ ?_
      · first | exact bF (by simp [inR, c_2, c_7]) | exact bT (by simp [inR, c_2, c_7])
      · rfl
    · skip
      refine aw_iconst hX (v := nI 1) (by decide) dX7_within_10 ?_
      refine aw_goto hX (tgt := 15) dX7_within_11 (by decide) ?_
      refine aw_finI (hR _ _ dX7_within_15) ?_ ?_
      · first | exact bF (by simp [inR, c_2, c_7]) | exact bT (by simp [inR, c_2, c_7])
      · rfl
set_option maxHeartbeats 4000000 in
set_option maxRecDepth 100000 in
theorem m_X8_in (d : Nat) (G : GT) (S : St) (v lo hi : Int32) : rX8_in G (d + 1) [.int v, .int lo, .int hi] S (some (.int (bI (inR v lo hi)))) S := by
  refine runs_Z (d := d) (by decide) (Nat.le_of_ble_eq_true rfl) (fun X (hX : XC X G d RX8 cX8_in 3) hR => ?_)
  show AW X G 0 [.int v, .int lo, .int hi] [] S
  refine aw_iload_0 hX dX8_in_0 ?_
  refine aw_iload_1 hX dX8_in_1 ?_
  first | with_reducible refine aw_icmpltN hX (tgt := 14) dX8_in_2 (by decide) (by omega) (by omega) (fun c_2 => ?_) (fun c_2 => ?_) | refine aw_jlt hX (tgt := 14) dX8_in_2 (by decide) (fun c_2 => ?_) (fun c_2 => ?_)
  · skip
    refine aw_iconst hX (v := nI 0) (by decide) dX8_in_14 ?_
    refine aw_finI (hR _ _ dX8_in_15) ?_ ?_
    · first | exact bF (by simp [inR, c_2]) | exact bT (by simp [inR, c_2])
    · rfl
  · skip
    refine aw_iload_0 hX dX8_in_5 ?_
    refine aw_iload_2 hX dX8_in_6 ?_
    first | with_reducible refine aw_icmpgtN hX (tgt := 14) dX8_in_7 (by decide) (by omega) (by omega) (fun c_7 => ?_) (fun c_7 => ?_) | refine aw_jgt hX (tgt := 14) dX8_in_7 (by decide) (fun c_7 => ?_) (fun c_7 => ?_)
    · skip
      refine aw_iconst hX (v := nI 0) (by decide) dX8_in_14 ?_
      refine aw_finI (hR _ _ dX8_in_15) ?_ ?_
      · first | exact bF (by simp [inR, c_2, c_7]) | exact bT (by simp [inR, c_2, c_7])
      · rfl
    · skip
      refine aw_iconst hX (v := nI 1) (by decide) dX8_in_10 ?_
      refine aw_goto hX (tgt := 15) dX8_in_11 (by decide) ?_
      refine aw_finI (hR _ _ dX8_in_15) ?_ ?_
      · first | exact bF (by simp [inR, c_2, c_7]) | exact bT (by simp [inR, c_2, c_7])
      · rfl
set_option maxHeartbeats 4000000 in
set_option maxRecDepth 100000 in
theorem m_X7_asNumber (d : Nat) (G : GT) (S : St) (b : Bool) : rX7_asNumber G (d + 1) [.int (bI b)] S (some (.int (bI b))) S := by
  refine runs_I (d := d) (by decide) (Nat.le_of_ble_eq_true rfl) (fun X (hX : XC X G d RX7 cX7_asNumber 1) hR => ?_)
  show AW X G 0 [.int (bI b)] [] S
  refine aw_iload_0 hX dX7_asNumber_0 ?_
  first | with_reducible refine aw_ifeqB hX (tgt := 8) dX7_asNumber_1 (by decide) (fun c_1 => ?_) (fun c_1 => ?_) | refine aw_ifeq hX (tgt := 8) dX7_asNumber_1 (by decide) (fun c_1 => ?_) (fun c_1 => ?_)
  · skip
    refine aw_iconst hX (v := nI 0) (by decide) dX7_asNumber_8 ?_
    refine aw_finI (hR _ _ dX7_asNumber_9) ?_ ?_
    · first | exact bF c_1 | exact bT c_1
    · rfl
  · skip
    refine aw_iconst hX (v := nI 1) (by decide) dX7_asNumber_4 ?_
    refine aw_goto hX (tgt := 9) dX7_asNumber_5 (by decide) ?_
    refine aw_finI (hR _ _ dX7_asNumber_9) ?_ ?_
    · first | exact bF c_1 | exact bT c_1
    · rfl
set_option maxHeartbeats 4000000 in
set_option maxRecDepth 100000 in
theorem m_X7_isHand (d : Nat) (G : GT) (S : St) (h : Int32) : rX7_isHand G (d + 2) [.int h] S (some (.int (bI (inR h (nI 0) (nI 3))))) S := by
  refine runs_Z (d := (d + 1)) (by decide) (Nat.le_of_ble_eq_true rfl) (fun X (hX : XC X G (d + 1) RX7 cX7_isHand 1) hR => ?_)
  show AW X G 0 [.int h] [] S
  refine aw_iload_0 hX dX7_isHand_0 ?_
  refine aw_iconst hX (v := nI 0) (by decide) dX7_isHand_1 ?_
  refine aw_iconst hX (v := nI 3) (by decide) dX7_isHand_2 ?_
  refine cs_X7_within hX ml_X7_73 dX7_isHand_3 (m_X7_within d G S _ _ _) (Nat.le_of_ble_eq_true rfl) ?_
  refine aw_finI (hR _ _ dX7_isHand_6) ?_ ?_
  · rfl
  · rfl
set_option maxHeartbeats 4000000 in
set_option maxRecDepth 100000 in
theorem m_X8_isHand (d : Nat) (G : GT) (S : St) (h : Int32) : rX8_isHand G (d + 2) [.int h] S (some (.int (bI (inR h (nI 0) (nI 3))))) S := by
  refine runs_Z (d := (d + 1)) (by decide) (Nat.le_of_ble_eq_true rfl) (fun X (hX : XC X G (d + 1) RX8 cX8_isHand 1) hR => ?_)
  show AW X G 0 [.int h] [] S
  refine aw_iload_0 hX dX8_isHand_0 ?_
  refine aw_iconst hX (v := nI 0) (by decide) dX8_isHand_1 ?_
  refine aw_iconst hX (v := nI 3) (by decide) dX8_isHand_2 ?_
  refine cs_X8_in hX ml_X8_60 dX8_isHand_3 (m_X8_in d G S _ _ _) (Nat.le_of_ble_eq_true rfl) ?_
  refine aw_finI (hR _ _ dX8_isHand_6) ?_ ?_
  · rfl
  · rfl
set_option maxHeartbeats 4000000 in
set_option maxRecDepth 100000 in
theorem m_X7_isPlace (d : Nat) (G : GT) (S : St) (x y : Int32) : rX7_isPlace G (d + 2) [.int x, .int y] S (some (.int (bI (inR x (nI 0) (nI 20) && inR y (nI 0) (nI 20))))) S := by
  refine runs_Z (d := (d + 1)) (by decide) (Nat.le_of_ble_eq_true rfl) (fun X (hX : XC X G (d + 1) RX7 cX7_isPlace 2) hR => ?_)
  show AW X G 0 [.int x, .int y] [] S
  refine aw_iload_0 hX dX7_isPlace_0 ?_
  refine aw_iconst hX (v := nI 0) (by decide) dX7_isPlace_1 ?_
  refine aw_bipush hX (v := nI 20) (by decide) dX7_isPlace_2 ?_
  refine cs_X7_within hX ml_X7_73 dX7_isPlace_4 (m_X7_within d G S _ _ _) (Nat.le_of_ble_eq_true rfl) ?_
  first | with_reducible refine aw_ifeqB hX (tgt := 24) dX7_isPlace_7 (by decide) (fun c_7 => ?_) (fun c_7 => ?_) | refine aw_ifeq hX (tgt := 24) dX7_isPlace_7 (by decide) (fun c_7 => ?_) (fun c_7 => ?_)
  · skip
    refine aw_iconst hX (v := nI 0) (by decide) dX7_isPlace_24 ?_
    refine aw_finI (hR _ _ dX7_isPlace_25) ?_ ?_
    · first | exact bF (by simp [c_7]) | exact bT (by simp [c_7])
    · rfl
  · skip
    refine aw_iload_1 hX dX7_isPlace_10 ?_
    refine aw_iconst hX (v := nI 0) (by decide) dX7_isPlace_11 ?_
    refine aw_bipush hX (v := nI 20) (by decide) dX7_isPlace_12 ?_
    refine cs_X7_within hX ml_X7_73 dX7_isPlace_14 (m_X7_within d G S _ _ _) (Nat.le_of_ble_eq_true rfl) ?_
    first | with_reducible refine aw_ifeqB hX (tgt := 24) dX7_isPlace_17 (by decide) (fun c_17 => ?_) (fun c_17 => ?_) | refine aw_ifeq hX (tgt := 24) dX7_isPlace_17 (by decide) (fun c_17 => ?_) (fun c_17 => ?_)
    · skip
      refine aw_iconst hX (v := nI 0) (by decide) dX7_isPlace_24 ?_
      refine aw_finI (hR _ _ dX7_isPlace_25) ?_ ?_
      · first | exact bF (by simp [c_7, c_17]) | exact bT (by simp [c_7, c_17])
      · rfl
    · skip
      refine aw_iconst hX (v := nI 1) (by decide) dX7_isPlace_20 ?_
      refine aw_goto hX (tgt := 25) dX7_isPlace_21 (by decide) ?_
      refine aw_finI (hR _ _ dX7_isPlace_25) ?_ ?_
      · first | exact bF (by simp [c_7, c_17]) | exact bT (by simp [c_7, c_17])
      · rfl
set_option maxHeartbeats 4000000 in
set_option maxRecDepth 100000 in
theorem m_X7_isBody (d : Nat) (G : GT) (S : St) (k f h w b : Int32) : rX7_isBody G (d + 2) [.int k, .int f, .int h, .int w, .int b] S (some (.int (bI (inR k (nI 0) (nI 2) && inR f (nI 0) (nI 2) && inR h (nI 1) (nI 30) && inR w (nI 10) (nI 40) && inR b (nI 0) (nI 4))))) S := by
  refine runs_Z (d := (d + 1)) (by decide) (Nat.le_of_ble_eq_true rfl) (fun X (hX : XC X G (d + 1) RX7 cX7_isBody 5) hR => ?_)
  show AW X G 0 [.int k, .int f, .int h, .int w, .int b] [] S
  refine aw_iload_0 hX dX7_isBody_0 ?_
  refine aw_iconst hX (v := nI 0) (by decide) dX7_isBody_1 ?_
  refine aw_iconst hX (v := nI 2) (by decide) dX7_isBody_2 ?_
  refine cs_X7_within hX ml_X7_73 dX7_isBody_3 (m_X7_within d G S _ _ _) (Nat.le_of_ble_eq_true rfl) ?_
  first | with_reducible refine aw_ifeqB hX (tgt := 53) dX7_isBody_6 (by decide) (fun c_6 => ?_) (fun c_6 => ?_) | refine aw_ifeq hX (tgt := 53) dX7_isBody_6 (by decide) (fun c_6 => ?_) (fun c_6 => ?_)
  · skip
    refine aw_iconst hX (v := nI 0) (by decide) dX7_isBody_53 ?_
    refine aw_finI (hR _ _ dX7_isBody_54) ?_ ?_
    · first | exact bF (by simp [c_6]) | exact bT (by simp [c_6])
    · rfl
  · skip
    refine aw_iload_1 hX dX7_isBody_9 ?_
    refine aw_iconst hX (v := nI 0) (by decide) dX7_isBody_10 ?_
    refine aw_iconst hX (v := nI 2) (by decide) dX7_isBody_11 ?_
    refine cs_X7_within hX ml_X7_73 dX7_isBody_12 (m_X7_within d G S _ _ _) (Nat.le_of_ble_eq_true rfl) ?_
    first | with_reducible refine aw_ifeqB hX (tgt := 53) dX7_isBody_15 (by decide) (fun c_15 => ?_) (fun c_15 => ?_) | refine aw_ifeq hX (tgt := 53) dX7_isBody_15 (by decide) (fun c_15 => ?_) (fun c_15 => ?_)
    · skip
      refine aw_iconst hX (v := nI 0) (by decide) dX7_isBody_53 ?_
      refine aw_finI (hR _ _ dX7_isBody_54) ?_ ?_
      · first | exact bF (by simp [c_6, c_15]) | exact bT (by simp [c_6, c_15])
      · rfl
    · skip
      refine aw_iload_2 hX dX7_isBody_18 ?_
      refine aw_iconst hX (v := nI 1) (by decide) dX7_isBody_19 ?_
      refine aw_bipush hX (v := nI 30) (by decide) dX7_isBody_20 ?_
      refine cs_X7_within hX ml_X7_73 dX7_isBody_22 (m_X7_within d G S _ _ _) (Nat.le_of_ble_eq_true rfl) ?_
      first | with_reducible refine aw_ifeqB hX (tgt := 53) dX7_isBody_25 (by decide) (fun c_25 => ?_) (fun c_25 => ?_) | refine aw_ifeq hX (tgt := 53) dX7_isBody_25 (by decide) (fun c_25 => ?_) (fun c_25 => ?_)
      · skip
        refine aw_iconst hX (v := nI 0) (by decide) dX7_isBody_53 ?_
        refine aw_finI (hR _ _ dX7_isBody_54) ?_ ?_
        · first | exact bF (by simp [c_6, c_15, c_25]) | exact bT (by simp [c_6, c_15, c_25])
        · rfl
      · skip
        refine aw_iload_3 hX dX7_isBody_28 ?_
        refine aw_bipush hX (v := nI 10) (by decide) dX7_isBody_29 ?_
        refine aw_bipush hX (v := nI 40) (by decide) dX7_isBody_31 ?_
        refine cs_X7_within hX ml_X7_73 dX7_isBody_33 (m_X7_within d G S _ _ _) (Nat.le_of_ble_eq_true rfl) ?_
        first | with_reducible refine aw_ifeqB hX (tgt := 53) dX7_isBody_36 (by decide) (fun c_36 => ?_) (fun c_36 => ?_) | refine aw_ifeq hX (tgt := 53) dX7_isBody_36 (by decide) (fun c_36 => ?_) (fun c_36 => ?_)
        · skip
          refine aw_iconst hX (v := nI 0) (by decide) dX7_isBody_53 ?_
          refine aw_finI (hR _ _ dX7_isBody_54) ?_ ?_
          · first | exact bF (by simp [c_6, c_15, c_25, c_36]) | exact bT (by simp [c_6, c_15, c_25, c_36])
          · rfl
        · skip
          refine aw_iload_4 hX dX7_isBody_39 ?_
          refine aw_iconst hX (v := nI 0) (by decide) dX7_isBody_41 ?_
          refine aw_iconst hX (v := nI 4) (by decide) dX7_isBody_42 ?_
          refine cs_X7_within hX ml_X7_73 dX7_isBody_43 (m_X7_within d G S _ _ _) (Nat.le_of_ble_eq_true rfl) ?_
          first | with_reducible refine aw_ifeqB hX (tgt := 53) dX7_isBody_46 (by decide) (fun c_46 => ?_) (fun c_46 => ?_) | refine aw_ifeq hX (tgt := 53) dX7_isBody_46 (by decide) (fun c_46 => ?_) (fun c_46 => ?_)
          · skip
            refine aw_iconst hX (v := nI 0) (by decide) dX7_isBody_53 ?_
            refine aw_finI (hR _ _ dX7_isBody_54) ?_ ?_
            · first | exact bF (by simp [c_6, c_15, c_25, c_36, c_46]) | exact bT (by simp [c_6, c_15, c_25, c_36, c_46])
            · rfl
          · skip
            refine aw_iconst hX (v := nI 1) (by decide) dX7_isBody_49 ?_
            refine aw_goto hX (tgt := 54) dX7_isBody_50 (by decide) ?_
            refine aw_finI (hR _ _ dX7_isBody_54) ?_ ?_
            · first | exact bF (by simp [c_6, c_15, c_25, c_36, c_46]) | exact bT (by simp [c_6, c_15, c_25, c_36, c_46])
            · rfl
set_option maxHeartbeats 4000000 in
set_option maxRecDepth 100000 in
theorem m_X0_hasRoomFor (d : Nat) (G : GT) (S : St) (n : Nat) (h2 : S.1 2 ≤ 60) (hn : n ≤ 8) : rX0_hasRoomFor G (d + 1) [.ref (gad G 1), .int (nI n)] S (some (.int (bI (decide (S.1 2 + n ≤ 60))))) S := by
  refine runs_Z (d := d) (by decide) (Nat.le_of_ble_eq_true rfl) (fun X (hX : XC X G d RX0 cX0_hasRoomFor 2) hR => ?_)
  show AW X G 0 [.ref (gad G 1), .int (nI n)] [] S
  refine aw_aload_0 hX dX0_hasRoomFor_0 ?_
  refine ag_X0_size hX fl_X0_15 dX0_hasRoomFor_1 ?_
  refine aw_iload_1 hX dX0_hasRoomFor_4 ?_
  first | with_reducible refine aw_iaddN hX dX0_hasRoomFor_5 ?_ | refine aw_iadd hX dX0_hasRoomFor_5 ?_
  refine aw_bipush hX (v := nI 60) (by decide) dX0_hasRoomFor_6 ?_
  first | with_reducible refine aw_icmpgtN hX (tgt := 15) dX0_hasRoomFor_8 (by decide) (by omega) (by omega) (fun c_8 => ?_) (fun c_8 => ?_) | refine aw_jgt hX (tgt := 15) dX0_hasRoomFor_8 (by decide) (fun c_8 => ?_) (fun c_8 => ?_)
  · skip
    refine aw_iconst hX (v := nI 0) (by decide) dX0_hasRoomFor_15 ?_
    refine aw_finI (hR _ _ dX0_hasRoomFor_16) ?_ ?_
    · first | exact bF (by simp; omega) | exact bT (by simp; omega)
    · rfl
  · skip
    refine aw_iconst hX (v := nI 1) (by decide) dX0_hasRoomFor_11 ?_
    refine aw_goto hX (tgt := 16) dX0_hasRoomFor_12 (by decide) ?_
    refine aw_finI (hR _ _ dX0_hasRoomFor_16) ?_ ?_
    · first | exact bF (by simp; omega) | exact bT (by simp; omega)
    · rfl
set_option maxHeartbeats 4000000 in
set_option maxRecDepth 100000 in
theorem m_X0_empty (d : Nat) (G : GT) (S : St)  : rX0_empty G (d + 1) [.ref (gad G 1)] S (some (.int (nI (S.1 2)))) (sN S 2 0) := by
  refine runs_I (d := d) (by decide) (Nat.le_of_ble_eq_true rfl) (fun X (hX : XC X G d RX0 cX0_empty 2) hR => ?_)
  show AW X G 0 [.ref (gad G 1), .null] [] S
  refine aw_aload_0 hX dX0_empty_0 ?_
  refine ag_X0_size hX fl_X0_15 dX0_empty_1 ?_
  refine aw_istore_1 hX rfl (by decide) dX0_empty_4 ?_
  refine aw_aload_0 hX dX0_empty_5 ?_
  refine aw_iconst hX (v := nI 0) (by decide) dX0_empty_6 ?_
  refine ap_X0_size hX fl_X0_15 dX0_empty_7 ?_
  refine aw_iload_1 hX dX0_empty_10 ?_
  refine aw_finI (hR _ _ dX0_empty_11) ?_ ?_
  · rfl
  · rfl
set_option maxHeartbeats 4000000 in
set_option maxRecDepth 100000 in
theorem m_X1_has (d : Nat) (G : GT) (S : St) (f : Int32) (hs : S.1 9 ≤ 10) : rX1_has G (d + 1) [.ref (gad G 5), .int f] S (some (.int (bI (decide (nI 0 ≤ f) && !decide (nI (S.1 9) ≤ f))))) S := by
  refine runs_Z (d := d) (by decide) (Nat.le_of_ble_eq_true rfl) (fun X (hX : XC X G d RX1 cX1_has 2) hR => ?_)
  show AW X G 0 [.ref (gad G 5), .int f] [] S
  refine aw_iload_1 hX dX1_has_0 ?_
  refine aw_iflt hX (tgt := 16) dX1_has_1 (by decide) (fun c_1 => ?_) (fun c_1 => ?_)
  · replace c_1 : ¬ nI 0 ≤ f := i_lt c_1
    refine aw_iconst hX (v := nI 0) (by decide) dX1_has_16 ?_
    refine aw_finI (hR _ _ dX1_has_17) ?_ ?_
    · first | exact bF (by simp [c_1]) | exact bT (by simp [c_1])
    · rfl
  · replace c_1 : nI 0 ≤ f := i_nlt c_1
    refine aw_iload_1 hX dX1_has_4 ?_
    refine aw_aload_0 hX dX1_has_5 ?_
    refine ag_X1_size hX fl_X1_16 dX1_has_6 ?_
    refine aw_jge hX (tgt := 16) dX1_has_9 (by decide) (fun c_9 => ?_) (fun c_9 => ?_)
    · skip
      refine aw_iconst hX (v := nI 0) (by decide) dX1_has_16 ?_
      refine aw_finI (hR _ _ dX1_has_17) ?_ ?_
      · first | exact bF (by simp [c_1, c_9]) | exact bT (by simp [c_1, c_9])
      · rfl
    · skip
      refine aw_iconst hX (v := nI 1) (by decide) dX1_has_12 ?_
      refine aw_goto hX (tgt := 17) dX1_has_13 (by decide) ?_
      refine aw_finI (hR _ _ dX1_has_17) ?_ ?_
      · first | exact bF (by simp [c_1, c_9]) | exact bT (by simp [c_1, c_9])
      · rfl
set_option maxHeartbeats 4000000 in
set_option maxRecDepth 100000 in
theorem m_X2_has (d : Nat) (G : GT) (S : St) (f : Int32) (hs : S.1 7 ≤ 12) : rX2_has G (d + 1) [.ref (gad G 3), .int f] S (some (.int (bI (decide (nI 0 ≤ f) && !decide (nI (S.1 7) ≤ f))))) S := by
  refine runs_Z (d := d) (by decide) (Nat.le_of_ble_eq_true rfl) (fun X (hX : XC X G d RX2 cX2_has 2) hR => ?_)
  show AW X G 0 [.ref (gad G 3), .int f] [] S
  refine aw_iload_1 hX dX2_has_0 ?_
  refine aw_iflt hX (tgt := 16) dX2_has_1 (by decide) (fun c_1 => ?_) (fun c_1 => ?_)
  · replace c_1 : ¬ nI 0 ≤ f := i_lt c_1
    refine aw_iconst hX (v := nI 0) (by decide) dX2_has_16 ?_
    refine aw_finI (hR _ _ dX2_has_17) ?_ ?_
    · first | exact bF (by simp [c_1]) | exact bT (by simp [c_1])
    · rfl
  · replace c_1 : nI 0 ≤ f := i_nlt c_1
    refine aw_iload_1 hX dX2_has_4 ?_
    refine aw_aload_0 hX dX2_has_5 ?_
    refine ag_X2_size hX fl_X2_45 dX2_has_6 ?_
    refine aw_jge hX (tgt := 16) dX2_has_9 (by decide) (fun c_9 => ?_) (fun c_9 => ?_)
    · skip
      refine aw_iconst hX (v := nI 0) (by decide) dX2_has_16 ?_
      refine aw_finI (hR _ _ dX2_has_17) ?_ ?_
      · first | exact bF (by simp [c_1, c_9]) | exact bT (by simp [c_1, c_9])
      · rfl
    · skip
      refine aw_iconst hX (v := nI 1) (by decide) dX2_has_12 ?_
      refine aw_goto hX (tgt := 17) dX2_has_13 (by decide) ?_
      refine aw_finI (hR _ _ dX2_has_17) ?_ ?_
      · first | exact bF (by simp [c_1, c_9]) | exact bT (by simp [c_1, c_9])
      · rfl
set_option maxHeartbeats 4000000 in
set_option maxRecDepth 100000 in
theorem m_X1_isFull (d : Nat) (G : GT) (S : St) (hs : S.1 9 ≤ 10) : rX1_isFull G (d + 1) [.ref (gad G 5)] S (some (.int (bI (decide (10 ≤ S.1 9))))) S := by
  refine runs_Z (d := d) (by decide) (Nat.le_of_ble_eq_true rfl) (fun X (hX : XC X G d RX1 cX1_isFull 1) hR => ?_)
  show AW X G 0 [.ref (gad G 5)] [] S
  refine aw_aload_0 hX dX1_isFull_0 ?_
  refine ag_X1_size hX fl_X1_16 dX1_isFull_1 ?_
  refine aw_bipush hX (v := nI 10) (by decide) dX1_isFull_4 ?_
  first | with_reducible refine aw_icmpltN hX (tgt := 13) dX1_isFull_6 (by decide) (by omega) (by omega) (fun c_6 => ?_) (fun c_6 => ?_) | refine aw_jlt hX (tgt := 13) dX1_isFull_6 (by decide) (fun c_6 => ?_) (fun c_6 => ?_)
  · skip
    refine aw_iconst hX (v := nI 0) (by decide) dX1_isFull_13 ?_
    refine aw_finI (hR _ _ dX1_isFull_14) ?_ ?_
    · first | exact bF (by simp; omega) | exact bT (by simp; omega)
    · rfl
  · skip
    refine aw_iconst hX (v := nI 1) (by decide) dX1_isFull_9 ?_
    refine aw_goto hX (tgt := 14) dX1_isFull_10 (by decide) ?_
    refine aw_finI (hR _ _ dX1_isFull_14) ?_ ?_
    · first | exact bF (by simp; omega) | exact bT (by simp; omega)
    · rfl
set_option maxHeartbeats 4000000 in
set_option maxRecDepth 100000 in
theorem m_X2_isFull (d : Nat) (G : GT) (S : St) (hs : S.1 7 ≤ 12) : rX2_isFull G (d + 1) [.ref (gad G 3)] S (some (.int (bI (decide (12 ≤ S.1 7))))) S := by
  refine runs_Z (d := d) (by decide) (Nat.le_of_ble_eq_true rfl) (fun X (hX : XC X G d RX2 cX2_isFull 1) hR => ?_)
  show AW X G 0 [.ref (gad G 3)] [] S
  refine aw_aload_0 hX dX2_isFull_0 ?_
  refine ag_X2_size hX fl_X2_45 dX2_isFull_1 ?_
  refine aw_bipush hX (v := nI 12) (by decide) dX2_isFull_4 ?_
  first | with_reducible refine aw_icmpltN hX (tgt := 13) dX2_isFull_6 (by decide) (by omega) (by omega) (fun c_6 => ?_) (fun c_6 => ?_) | refine aw_jlt hX (tgt := 13) dX2_isFull_6 (by decide) (fun c_6 => ?_) (fun c_6 => ?_)
  · skip
    refine aw_iconst hX (v := nI 0) (by decide) dX2_isFull_13 ?_
    refine aw_finI (hR _ _ dX2_isFull_14) ?_ ?_
    · first | exact bF (by simp; omega) | exact bT (by simp; omega)
    · rfl
  · skip
    refine aw_iconst hX (v := nI 1) (by decide) dX2_isFull_9 ?_
    refine aw_goto hX (tgt := 14) dX2_isFull_10 (by decide) ?_
    refine aw_finI (hR _ _ dX2_isFull_14) ?_ ?_
    · first | exact bF (by simp; omega) | exact bT (by simp; omega)
    · rfl
set_option maxHeartbeats 4000000 in
set_option maxRecDepth 100000 in
theorem m_X3_isFull (d : Nat) (G : GT) (S : St) (hs : S.1 6 ≤ 6) : rX3_isFull G (d + 1) [.ref (gad G 2)] S (some (.int (bI (decide (6 ≤ S.1 6))))) S := by
  refine runs_Z (d := d) (by decide) (Nat.le_of_ble_eq_true rfl) (fun X (hX : XC X G d RX3 cX3_isFull 1) hR => ?_)
  show AW X G 0 [.ref (gad G 2)] [] S
  refine aw_aload_0 hX dX3_isFull_0 ?_
  refine ag_X3_size hX fl_X3_29 dX3_isFull_1 ?_
  refine aw_bipush hX (v := nI 6) (by decide) dX3_isFull_4 ?_
  first | with_reducible refine aw_icmpltN hX (tgt := 13) dX3_isFull_6 (by decide) (by omega) (by omega) (fun c_6 => ?_) (fun c_6 => ?_) | refine aw_jlt hX (tgt := 13) dX3_isFull_6 (by decide) (fun c_6 => ?_) (fun c_6 => ?_)
  · skip
    refine aw_iconst hX (v := nI 0) (by decide) dX3_isFull_13 ?_
    refine aw_finI (hR _ _ dX3_isFull_14) ?_ ?_
    · first | exact bF (by simp; omega) | exact bT (by simp; omega)
    · rfl
  · skip
    refine aw_iconst hX (v := nI 1) (by decide) dX3_isFull_9 ?_
    refine aw_goto hX (tgt := 14) dX3_isFull_10 (by decide) ?_
    refine aw_finI (hR _ _ dX3_isFull_14) ?_ ?_
    · first | exact bF (by simp; omega) | exact bT (by simp; omega)
    · rfl
set_option maxHeartbeats 4000000 in
set_option maxRecDepth 100000 in
theorem m_X4_isFull (d : Nat) (G : GT) (S : St) (hs : S.1 8 ≤ 30) : rX4_isFull G (d + 1) [.ref (gad G 4)] S (some (.int (bI (decide (30 ≤ S.1 8))))) S := by
  refine runs_Z (d := d) (by decide) (Nat.le_of_ble_eq_true rfl) (fun X (hX : XC X G d RX4 cX4_isFull 1) hR => ?_)
  show AW X G 0 [.ref (gad G 4)] [] S
  refine aw_aload_0 hX dX4_isFull_0 ?_
  refine ag_X4_size hX fl_X4_24 dX4_isFull_1 ?_
  refine aw_bipush hX (v := nI 30) (by decide) dX4_isFull_4 ?_
  first | with_reducible refine aw_icmpltN hX (tgt := 13) dX4_isFull_6 (by decide) (by omega) (by omega) (fun c_6 => ?_) (fun c_6 => ?_) | refine aw_jlt hX (tgt := 13) dX4_isFull_6 (by decide) (fun c_6 => ?_) (fun c_6 => ?_)
  · skip
    refine aw_iconst hX (v := nI 0) (by decide) dX4_isFull_13 ?_
    refine aw_finI (hR _ _ dX4_isFull_14) ?_ ?_
    · first | exact bF (by simp; omega) | exact bT (by simp; omega)
    · rfl
  · skip
    refine aw_iconst hX (v := nI 1) (by decide) dX4_isFull_9 ?_
    refine aw_goto hX (tgt := 14) dX4_isFull_10 (by decide) ?_
    refine aw_finI (hR _ _ dX4_isFull_14) ?_ ?_
    · first | exact bF (by simp; omega) | exact bT (by simp; omega)
    · rfl
set_option maxHeartbeats 4000000 in
set_option maxRecDepth 100000 in
theorem m_X5_isFull (d : Nat) (G : GT) (S : St) (hs : S.1 10 ≤ 100) : rX5_isFull G (d + 1) [.ref (gad G 6)] S (some (.int (bI (decide (100 ≤ S.1 10))))) S := by
  refine runs_Z (d := d) (by decide) (Nat.le_of_ble_eq_true rfl) (fun X (hX : XC X G d RX5 cX5_isFull 1) hR => ?_)
  show AW X G 0 [.ref (gad G 6)] [] S
  refine aw_aload_0 hX dX5_isFull_0 ?_
  refine ag_X5_size hX fl_X5_24 dX5_isFull_1 ?_
  refine aw_bipush hX (v := nI 100) (by decide) dX5_isFull_4 ?_
  first | with_reducible refine aw_icmpltN hX (tgt := 13) dX5_isFull_6 (by decide) (by omega) (by omega) (fun c_6 => ?_) (fun c_6 => ?_) | refine aw_jlt hX (tgt := 13) dX5_isFull_6 (by decide) (fun c_6 => ?_) (fun c_6 => ?_)
  · skip
    refine aw_iconst hX (v := nI 0) (by decide) dX5_isFull_13 ?_
    refine aw_finI (hR _ _ dX5_isFull_14) ?_ ?_
    · first | exact bF (by simp; omega) | exact bT (by simp; omega)
    · rfl
  · skip
    refine aw_iconst hX (v := nI 1) (by decide) dX5_isFull_9 ?_
    refine aw_goto hX (tgt := 14) dX5_isFull_10 (by decide) ?_
    refine aw_finI (hR _ _ dX5_isFull_14) ?_ ?_
    · first | exact bF (by simp; omega) | exact bT (by simp; omega)
    · rfl
set_option maxHeartbeats 4000000 in
set_option maxRecDepth 100000 in
theorem m_X1_add (d : Nat) (G : GT) (S : St) (f dy : Int32) (hs : S.1 9 < 10) : rX1_add G (d + 1) [.ref (gad G 5), .int f, .int dy] S (some (.int (nI (S.1 9)))) (sN (sA (sA S 34 (S.1 9) f) 35 (S.1 9) dy) 9 (S.1 9 + 1)) := by
  refine runs_I (d := d) (by decide) (Nat.le_of_ble_eq_true rfl) (fun X (hX : XC X G d RX1 cX1_add 3) hR => ?_)
  show AW X G 0 [.ref (gad G 5), .int f, .int dy] [] S
  refine aw_aload_0 hX dX1_add_0 ?_
  refine ag_X1_flue hX fl_X1_9 dX1_add_1 ?_
  refine aw_aload_0 hX dX1_add_4 ?_
  refine ag_X1_size hX fl_X1_16 dX1_add_5 ?_
  refine aw_iload_1 hX dX1_add_8 ?_
  refine aw_iast hX dX1_add_9 rfl (fun _ => rfl) (by decide) (by omega) ?_
  refine aw_aload_0 hX dX1_add_10 ?_
  refine ag_X1_day hX fl_X1_13 dX1_add_11 ?_
  try simp only [sN_N, sN_A, sN_L, sN_R, sA_N, sA_A, sA_L, sA_R, sL_N, sL_A, sL_L, sL_R, sR_N, sR_A, sR_L, sR_R, reduceIte]
  refine aw_aload_0 hX dX1_add_14 ?_
  refine ag_X1_size hX fl_X1_16 dX1_add_15 ?_
  try simp only [sN_N, sN_A, sN_L, sN_R, sA_N, sA_A, sA_L, sA_R, sL_N, sL_A, sL_L, sL_R, sR_N, sR_A, sR_L, sR_R, reduceIte]
  refine aw_iload_2 hX dX1_add_18 ?_
  refine aw_iast hX dX1_add_19 rfl (fun _ => rfl) (by decide) (by omega) ?_
  refine aw_aload_0 hX dX1_add_20 ?_
  refine aw_dup hX rfl dX1_add_21 ?_
  refine ag_X1_size hX fl_X1_16 dX1_add_22 ?_
  try simp only [sN_N, sN_A, sN_L, sN_R, sA_N, sA_A, sA_L, sA_R, sL_N, sL_A, sL_L, sL_R, sR_N, sR_A, sR_L, sR_R, reduceIte]
  refine aw_iconst hX (v := nI 1) (by decide) dX1_add_25 ?_
  first | with_reducible refine aw_iaddN hX dX1_add_26 ?_ | refine aw_iadd hX dX1_add_26 ?_
  refine ap_X1_size hX fl_X1_16 dX1_add_27 ?_
  refine aw_aload_0 hX dX1_add_30 ?_
  refine ag_X1_size hX fl_X1_16 dX1_add_31 ?_
  try simp only [sN_N, sN_A, sN_L, sN_R, sA_N, sA_A, sA_L, sA_R, sL_N, sL_A, sL_L, sL_R, sR_N, sR_A, sR_L, sR_R, reduceIte]
  refine aw_iconst hX (v := nI 1) (by decide) dX1_add_34 ?_
  first | with_reducible refine aw_isubN hX (by omega) dX1_add_35 ?_ | refine aw_isub hX dX1_add_35 ?_
  refine aw_finI (hR _ _ dX1_add_36) ?_ ?_
  · first | rfl | simp
  · rfl
set_option maxHeartbeats 4000000 in
set_option maxRecDepth 100000 in
theorem m_X4_add (d : Nat) (G : GT) (S : St) (f dy td : Int32) (b : Bool) (hs : S.1 8 < 30) : rX4_add G (d + 1) [.ref (gad G 4), .int f, .int dy, .int td, .int (bI b)] S (some (.int (nI (S.1 8)))) (sN (sA (sA (sA (sA S 30 (S.1 8) f) 31 (S.1 8) dy) 32 (S.1 8) td) 33 (S.1 8) (bI b)) 8 (S.1 8 + 1)) := by
  refine runs_I (d := d) (by decide) (Nat.le_of_ble_eq_true rfl) (fun X (hX : XC X G d RX4 cX4_add 5) hR => ?_)
  show AW X G 0 [.ref (gad G 4), .int f, .int dy, .int td, .int (bI b)] [] S
  refine aw_aload_0 hX dX4_add_0 ?_
  refine ag_X4_flue hX fl_X4_11 dX4_add_1 ?_
  refine aw_aload_0 hX dX4_add_4 ?_
  refine ag_X4_size hX fl_X4_24 dX4_add_5 ?_
  refine aw_iload_1 hX dX4_add_8 ?_
  refine aw_iast hX dX4_add_9 rfl (fun _ => rfl) (by decide) (by omega) ?_
  refine aw_aload_0 hX dX4_add_10 ?_
  refine ag_X4_day hX fl_X4_15 dX4_add_11 ?_
  try simp only [sN_N, sN_A, sN_L, sN_R, sA_N, sA_A, sA_L, sA_R, sL_N, sL_A, sL_L, sL_R, sR_N, sR_A, sR_L, sR_R, reduceIte]
  refine aw_aload_0 hX dX4_add_14 ?_
  refine ag_X4_size hX fl_X4_24 dX4_add_15 ?_
  try simp only [sN_N, sN_A, sN_L, sN_R, sA_N, sA_A, sA_L, sA_R, sL_N, sL_A, sL_L, sL_R, sR_N, sR_A, sR_L, sR_R, reduceIte]
  refine aw_iload_2 hX dX4_add_18 ?_
  refine aw_iast hX dX4_add_19 rfl (fun _ => rfl) (by decide) (by omega) ?_
  refine aw_aload_0 hX dX4_add_20 ?_
  refine ag_X4_told hX fl_X4_18 dX4_add_21 ?_
  try simp only [sN_N, sN_A, sN_L, sN_R, sA_N, sA_A, sA_L, sA_R, sL_N, sL_A, sL_L, sL_R, sR_N, sR_A, sR_L, sR_R, reduceIte]
  refine aw_aload_0 hX dX4_add_24 ?_
  refine ag_X4_size hX fl_X4_24 dX4_add_25 ?_
  try simp only [sN_N, sN_A, sN_L, sN_R, sA_N, sA_A, sA_L, sA_R, sL_N, sL_A, sL_L, sL_R, sR_N, sR_A, sR_L, sR_R, reduceIte]
  refine aw_iload_3 hX dX4_add_28 ?_
  refine aw_iast hX dX4_add_29 rfl (fun _ => rfl) (by decide) (by omega) ?_
  refine aw_aload_0 hX dX4_add_30 ?_
  refine ag_X4_finding hX fl_X4_21 dX4_add_31 ?_
  try simp only [sN_N, sN_A, sN_L, sN_R, sA_N, sA_A, sA_L, sA_R, sL_N, sL_A, sL_L, sL_R, sR_N, sR_A, sR_L, sR_R, reduceIte]
  refine aw_aload_0 hX dX4_add_34 ?_
  refine ag_X4_size hX fl_X4_24 dX4_add_35 ?_
  try simp only [sN_N, sN_A, sN_L, sN_R, sA_N, sA_A, sA_L, sA_R, sL_N, sL_A, sL_L, sL_R, sR_N, sR_A, sR_L, sR_R, reduceIte]
  refine aw_iload_4 hX dX4_add_38 ?_
  first | with_reducible refine aw_ifeqB hX (tgt := 47) dX4_add_40 (by decide) (fun c_40 => ?_) (fun c_40 => ?_) | refine aw_ifeq hX (tgt := 47) dX4_add_40 (by decide) (fun c_40 => ?_) (fun c_40 => ?_)
  · subst c_40
    refine aw_iconst hX (v := nI 0) (by decide) dX4_add_47 ?_
    refine aw_iast hX dX4_add_48 rfl (fun _ => rfl) (by decide) (by omega) ?_
    refine aw_aload_0 hX dX4_add_49 ?_
    refine aw_dup hX rfl dX4_add_50 ?_
    refine ag_X4_size hX fl_X4_24 dX4_add_51 ?_
    try simp only [sN_N, sN_A, sN_L, sN_R, sA_N, sA_A, sA_L, sA_R, sL_N, sL_A, sL_L, sL_R, sR_N, sR_A, sR_L, sR_R, reduceIte]
    refine aw_iconst hX (v := nI 1) (by decide) dX4_add_54 ?_
    first | with_reducible refine aw_iaddN hX dX4_add_55 ?_ | refine aw_iadd hX dX4_add_55 ?_
    refine ap_X4_size hX fl_X4_24 dX4_add_56 ?_
    refine aw_aload_0 hX dX4_add_59 ?_
    refine ag_X4_size hX fl_X4_24 dX4_add_60 ?_
    try simp only [sN_N, sN_A, sN_L, sN_R, sA_N, sA_A, sA_L, sA_R, sL_N, sL_A, sL_L, sL_R, sR_N, sR_A, sR_L, sR_R, reduceIte]
    refine aw_iconst hX (v := nI 1) (by decide) dX4_add_63 ?_
    first | with_reducible refine aw_isubN hX (by omega) dX4_add_64 ?_ | refine aw_isub hX dX4_add_64 ?_
    refine aw_finI (hR _ _ dX4_add_65) ?_ ?_
    · first | rfl | simp
    · rfl
  · subst c_40
    refine aw_iconst hX (v := nI 1) (by decide) dX4_add_43 ?_
    refine aw_goto hX (tgt := 48) dX4_add_44 (by decide) ?_
    refine aw_iast hX dX4_add_48 rfl (fun _ => rfl) (by decide) (by omega) ?_
    refine aw_aload_0 hX dX4_add_49 ?_
    refine aw_dup hX rfl dX4_add_50 ?_
    refine ag_X4_size hX fl_X4_24 dX4_add_51 ?_
    try simp only [sN_N, sN_A, sN_L, sN_R, sA_N, sA_A, sA_L, sA_R, sL_N, sL_A, sL_L, sL_R, sR_N, sR_A, sR_L, sR_R, reduceIte]
    refine aw_iconst hX (v := nI 1) (by decide) dX4_add_54 ?_
    first | with_reducible refine aw_iaddN hX dX4_add_55 ?_ | refine aw_iadd hX dX4_add_55 ?_
    refine ap_X4_size hX fl_X4_24 dX4_add_56 ?_
    refine aw_aload_0 hX dX4_add_59 ?_
    refine ag_X4_size hX fl_X4_24 dX4_add_60 ?_
    try simp only [sN_N, sN_A, sN_L, sN_R, sA_N, sA_A, sA_L, sA_R, sL_N, sL_A, sL_L, sL_R, sR_N, sR_A, sR_L, sR_R, reduceIte]
    refine aw_iconst hX (v := nI 1) (by decide) dX4_add_63 ?_
    first | with_reducible refine aw_isubN hX (by omega) dX4_add_64 ?_ | refine aw_isub hX dX4_add_64 ?_
    refine aw_finI (hR _ _ dX4_add_65) ?_ ?_
    · first | rfl | simp
    · rfl
set_option maxHeartbeats 4000000 in
set_option maxRecDepth 100000 in
theorem m_X5_add (d : Nat) (G : GT) (S : St) (f dy hd fe : Int32) (hs : S.1 10 < 100) : rX5_add G (d + 1) [.ref (gad G 6), .int f, .int dy, .int hd, .int fe] S none (sN (sA (sA (sA (sA S 36 (S.1 10) f) 37 (S.1 10) dy) 38 (S.1 10) hd) 39 (S.1 10) fe) 10 (S.1 10 + 1)) := by
  refine runs_V (d := d) (by decide) (Nat.le_of_ble_eq_true rfl) (fun X (hX : XC X G d RX5 cX5_add 5) hR => ?_)
  show AW X G 0 [.ref (gad G 6), .int f, .int dy, .int hd, .int fe] [] S
  refine aw_aload_0 hX dX5_add_0 ?_
  refine ag_X5_flue hX fl_X5_11 dX5_add_1 ?_
  refine aw_aload_0 hX dX5_add_4 ?_
  refine ag_X5_size hX fl_X5_24 dX5_add_5 ?_
  refine aw_iload_1 hX dX5_add_8 ?_
  refine aw_iast hX dX5_add_9 rfl (fun _ => rfl) (by decide) (by omega) ?_
  refine aw_aload_0 hX dX5_add_10 ?_
  refine ag_X5_day hX fl_X5_15 dX5_add_11 ?_
  try simp only [sN_N, sN_A, sN_L, sN_R, sA_N, sA_A, sA_L, sA_R, sL_N, sL_A, sL_L, sL_R, sR_N, sR_A, sR_L, sR_R, reduceIte]
  refine aw_aload_0 hX dX5_add_14 ?_
  refine ag_X5_size hX fl_X5_24 dX5_add_15 ?_
  try simp only [sN_N, sN_A, sN_L, sN_R, sA_N, sA_A, sA_L, sA_R, sL_N, sL_A, sL_L, sL_R, sR_N, sR_A, sR_L, sR_R, reduceIte]
  refine aw_iload_2 hX dX5_add_18 ?_
  refine aw_iast hX dX5_add_19 rfl (fun _ => rfl) (by decide) (by omega) ?_
  refine aw_aload_0 hX dX5_add_20 ?_
  refine ag_X5_hand hX fl_X5_18 dX5_add_21 ?_
  try simp only [sN_N, sN_A, sN_L, sN_R, sA_N, sA_A, sA_L, sA_R, sL_N, sL_A, sL_L, sL_R, sR_N, sR_A, sR_L, sR_R, reduceIte]
  refine aw_aload_0 hX dX5_add_24 ?_
  refine ag_X5_size hX fl_X5_24 dX5_add_25 ?_
  try simp only [sN_N, sN_A, sN_L, sN_R, sA_N, sA_A, sA_L, sA_R, sL_N, sL_A, sL_L, sL_R, sR_N, sR_A, sR_L, sR_R, reduceIte]
  refine aw_iload_3 hX dX5_add_28 ?_
  refine aw_iast hX dX5_add_29 rfl (fun _ => rfl) (by decide) (by omega) ?_
  refine aw_aload_0 hX dX5_add_30 ?_
  refine ag_X5_fee hX fl_X5_21 dX5_add_31 ?_
  try simp only [sN_N, sN_A, sN_L, sN_R, sA_N, sA_A, sA_L, sA_R, sL_N, sL_A, sL_L, sL_R, sR_N, sR_A, sR_L, sR_R, reduceIte]
  refine aw_aload_0 hX dX5_add_34 ?_
  refine ag_X5_size hX fl_X5_24 dX5_add_35 ?_
  try simp only [sN_N, sN_A, sN_L, sN_R, sA_N, sA_A, sA_L, sA_R, sL_N, sL_A, sL_L, sL_R, sR_N, sR_A, sR_L, sR_R, reduceIte]
  refine aw_iload_4 hX dX5_add_38 ?_
  refine aw_iast hX dX5_add_40 rfl (fun _ => rfl) (by decide) (by omega) ?_
  refine aw_aload_0 hX dX5_add_41 ?_
  refine aw_dup hX rfl dX5_add_42 ?_
  refine ag_X5_size hX fl_X5_24 dX5_add_43 ?_
  try simp only [sN_N, sN_A, sN_L, sN_R, sA_N, sA_A, sA_L, sA_R, sL_N, sL_A, sL_L, sL_R, sR_N, sR_A, sR_L, sR_R, reduceIte]
  refine aw_iconst hX (v := nI 1) (by decide) dX5_add_46 ?_
  first | with_reducible refine aw_iaddN hX dX5_add_47 ?_ | refine aw_iadd hX dX5_add_47 ?_
  refine ap_X5_size hX fl_X5_24 dX5_add_48 ?_
  refine aw_finV (hR _ _ dX5_add_51) ?_
  rfl
set_option maxHeartbeats 4000000 in
set_option maxRecDepth 100000 in
theorem m_X2_setBody (d : Nat) (G : GT) (S : St) (k f h w b : Int32) (hs : S.1 7 < 12) : rX2_setBody G (d + 1) [.ref (gad G 3), .int k, .int f, .int h, .int w, .int b] S none (sA (sA (sA (sA (sA S 19 (S.1 7) k) 20 (S.1 7) f) 21 (S.1 7) h) 22 (S.1 7) w) 23 (S.1 7) b) := by
  refine runs_V (d := d) (by decide) (Nat.le_of_ble_eq_true rfl) (fun X (hX : XC X G d RX2 cX2_setBody 6) hR => ?_)
  show AW X G 0 [.ref (gad G 3), .int k, .int f, .int h, .int w, .int b] [] S
  refine aw_aload_0 hX dX2_setBody_0 ?_
  refine ag_X2_kind hX fl_X2_11 dX2_setBody_1 ?_
  refine aw_aload_0 hX dX2_setBody_4 ?_
  refine ag_X2_size hX fl_X2_45 dX2_setBody_5 ?_
  refine aw_iload_1 hX dX2_setBody_8 ?_
  refine aw_iast hX dX2_setBody_9 rfl (fun _ => rfl) (by decide) (by omega) ?_
  refine aw_aload_0 hX dX2_setBody_10 ?_
  refine ag_X2_fuel hX fl_X2_15 dX2_setBody_11 ?_
  try simp only [sN_N, sN_A, sN_L, sN_R, sA_N, sA_A, sA_L, sA_R, sL_N, sL_A, sL_L, sL_R, sR_N, sR_A, sR_L, sR_R, reduceIte]
  refine aw_aload_0 hX dX2_setBody_14 ?_
  refine ag_X2_size hX fl_X2_45 dX2_setBody_15 ?_
  try simp only [sN_N, sN_A, sN_L, sN_R, sA_N, sA_A, sA_L, sA_R, sL_N, sL_A, sL_L, sL_R, sR_N, sR_A, sR_L, sR_R, reduceIte]
  refine aw_iload_2 hX dX2_setBody_18 ?_
  refine aw_iast hX dX2_setBody_19 rfl (fun _ => rfl) (by decide) (by omega) ?_
  refine aw_aload_0 hX dX2_setBody_20 ?_
  refine ag_X2_height hX fl_X2_18 dX2_setBody_21 ?_
  try simp only [sN_N, sN_A, sN_L, sN_R, sA_N, sA_A, sA_L, sA_R, sL_N, sL_A, sL_L, sL_R, sR_N, sR_A, sR_L, sR_R, reduceIte]
  refine aw_aload_0 hX dX2_setBody_24 ?_
  refine ag_X2_size hX fl_X2_45 dX2_setBody_25 ?_
  try simp only [sN_N, sN_A, sN_L, sN_R, sA_N, sA_A, sA_L, sA_R, sL_N, sL_A, sL_L, sL_R, sR_N, sR_A, sR_L, sR_R, reduceIte]
  refine aw_iload_3 hX dX2_setBody_28 ?_
  refine aw_iast hX dX2_setBody_29 rfl (fun _ => rfl) (by decide) (by omega) ?_
  refine aw_aload_0 hX dX2_setBody_30 ?_
  refine ag_X2_width hX fl_X2_21 dX2_setBody_31 ?_
  try simp only [sN_N, sN_A, sN_L, sN_R, sA_N, sA_A, sA_L, sA_R, sL_N, sL_A, sL_L, sL_R, sR_N, sR_A, sR_L, sR_R, reduceIte]
  refine aw_aload_0 hX dX2_setBody_34 ?_
  refine ag_X2_size hX fl_X2_45 dX2_setBody_35 ?_
  try simp only [sN_N, sN_A, sN_L, sN_R, sA_N, sA_A, sA_L, sA_R, sL_N, sL_A, sL_L, sL_R, sR_N, sR_A, sR_L, sR_R, reduceIte]
  refine aw_iload_4 hX dX2_setBody_38 ?_
  refine aw_iast hX dX2_setBody_40 rfl (fun _ => rfl) (by decide) (by omega) ?_
  refine aw_aload_0 hX dX2_setBody_41 ?_
  refine ag_X2_bends hX fl_X2_24 dX2_setBody_42 ?_
  try simp only [sN_N, sN_A, sN_L, sN_R, sA_N, sA_A, sA_L, sA_R, sL_N, sL_A, sL_L, sL_R, sR_N, sR_A, sR_L, sR_R, reduceIte]
  refine aw_aload_0 hX dX2_setBody_45 ?_
  refine ag_X2_size hX fl_X2_45 dX2_setBody_46 ?_
  try simp only [sN_N, sN_A, sN_L, sN_R, sA_N, sA_A, sA_L, sA_R, sL_N, sL_A, sL_L, sL_R, sR_N, sR_A, sR_L, sR_R, reduceIte]
  refine aw_iload_5 hX dX2_setBody_49 ?_
  refine aw_iast hX dX2_setBody_51 rfl (fun _ => rfl) (by decide) (by omega) ?_
  refine aw_finV (hR _ _ dX2_setBody_52) ?_
  rfl
set_option maxHeartbeats 4000000 in
set_option maxRecDepth 100000 in
theorem m_X2_setPlace (d : Nat) (G : GT) (S : St) (x y h dy : Int32) (hs : S.1 7 < 12) : rX2_setPlace G (d + 1) [.ref (gad G 3), .int x, .int y, .int h, .int dy] S none (sA (sA (sA (sA S 24 (S.1 7) x) 25 (S.1 7) y) 26 (S.1 7) h) 27 (S.1 7) dy) := by
  refine runs_V (d := d) (by decide) (Nat.le_of_ble_eq_true rfl) (fun X (hX : XC X G d RX2 cX2_setPlace 5) hR => ?_)
  show AW X G 0 [.ref (gad G 3), .int x, .int y, .int h, .int dy] [] S
  refine aw_aload_0 hX dX2_setPlace_0 ?_
  refine ag_X2_x hX fl_X2_27 dX2_setPlace_1 ?_
  refine aw_aload_0 hX dX2_setPlace_4 ?_
  refine ag_X2_size hX fl_X2_45 dX2_setPlace_5 ?_
  refine aw_iload_1 hX dX2_setPlace_8 ?_
  refine aw_iast hX dX2_setPlace_9 rfl (fun _ => rfl) (by decide) (by omega) ?_
  refine aw_aload_0 hX dX2_setPlace_10 ?_
  refine ag_X2_y hX fl_X2_30 dX2_setPlace_11 ?_
  try simp only [sN_N, sN_A, sN_L, sN_R, sA_N, sA_A, sA_L, sA_R, sL_N, sL_A, sL_L, sL_R, sR_N, sR_A, sR_L, sR_R, reduceIte]
  refine aw_aload_0 hX dX2_setPlace_14 ?_
  refine ag_X2_size hX fl_X2_45 dX2_setPlace_15 ?_
  try simp only [sN_N, sN_A, sN_L, sN_R, sA_N, sA_A, sA_L, sA_R, sL_N, sL_A, sL_L, sL_R, sR_N, sR_A, sR_L, sR_R, reduceIte]
  refine aw_iload_2 hX dX2_setPlace_18 ?_
  refine aw_iast hX dX2_setPlace_19 rfl (fun _ => rfl) (by decide) (by omega) ?_
  refine aw_aload_0 hX dX2_setPlace_20 ?_
  refine ag_X2_hand hX fl_X2_33 dX2_setPlace_21 ?_
  try simp only [sN_N, sN_A, sN_L, sN_R, sA_N, sA_A, sA_L, sA_R, sL_N, sL_A, sL_L, sL_R, sR_N, sR_A, sR_L, sR_R, reduceIte]
  refine aw_aload_0 hX dX2_setPlace_24 ?_
  refine ag_X2_size hX fl_X2_45 dX2_setPlace_25 ?_
  try simp only [sN_N, sN_A, sN_L, sN_R, sA_N, sA_A, sA_L, sA_R, sL_N, sL_A, sL_L, sL_R, sR_N, sR_A, sR_L, sR_R, reduceIte]
  refine aw_iload_3 hX dX2_setPlace_28 ?_
  refine aw_iast hX dX2_setPlace_29 rfl (fun _ => rfl) (by decide) (by omega) ?_
  refine aw_aload_0 hX dX2_setPlace_30 ?_
  refine ag_X2_came hX fl_X2_36 dX2_setPlace_31 ?_
  try simp only [sN_N, sN_A, sN_L, sN_R, sA_N, sA_A, sA_L, sA_R, sL_N, sL_A, sL_L, sL_R, sR_N, sR_A, sR_L, sR_R, reduceIte]
  refine aw_aload_0 hX dX2_setPlace_34 ?_
  refine ag_X2_size hX fl_X2_45 dX2_setPlace_35 ?_
  try simp only [sN_N, sN_A, sN_L, sN_R, sA_N, sA_A, sA_L, sA_R, sL_N, sL_A, sL_L, sL_R, sR_N, sR_A, sR_L, sR_R, reduceIte]
  refine aw_iload_4 hX dX2_setPlace_38 ?_
  refine aw_iast hX dX2_setPlace_40 rfl (fun _ => rfl) (by decide) (by omega) ?_
  refine aw_finV (hR _ _ dX2_setPlace_41) ?_
  rfl
set_option maxHeartbeats 4000000 in
set_option maxRecDepth 100000 in
theorem m_X2_add (d : Nat) (G : GT) (S : St) (hs : S.1 7 < 12) : rX2_add G (d + 1) [.ref (gad G 3)] S (some (.int (nI (S.1 7)))) (sN (sA S 28 (S.1 7) (nI 0)) 7 (S.1 7 + 1)) := by
  refine runs_I (d := d) (by decide) (Nat.le_of_ble_eq_true rfl) (fun X (hX : XC X G d RX2 cX2_add 1) hR => ?_)
  show AW X G 0 [.ref (gad G 3)] [] S
  refine aw_aload_0 hX dX2_add_0 ?_
  refine ag_X2_refusals hX fl_X2_39 dX2_add_1 ?_
  refine aw_aload_0 hX dX2_add_4 ?_
  refine ag_X2_size hX fl_X2_45 dX2_add_5 ?_
  refine aw_iconst hX (v := nI 0) (by decide) dX2_add_8 ?_
  refine aw_iast hX dX2_add_9 rfl (fun _ => rfl) (by decide) (by omega) ?_
  refine aw_aload_0 hX dX2_add_10 ?_
  refine aw_dup hX rfl dX2_add_11 ?_
  refine ag_X2_size hX fl_X2_45 dX2_add_12 ?_
  try simp only [sN_N, sN_A, sN_L, sN_R, sA_N, sA_A, sA_L, sA_R, sL_N, sL_A, sL_L, sL_R, sR_N, sR_A, sR_L, sR_R, reduceIte]
  refine aw_iconst hX (v := nI 1) (by decide) dX2_add_15 ?_
  first | with_reducible refine aw_iaddN hX dX2_add_16 ?_ | refine aw_iadd hX dX2_add_16 ?_
  refine ap_X2_size hX fl_X2_45 dX2_add_17 ?_
  refine aw_aload_0 hX dX2_add_20 ?_
  refine ag_X2_size hX fl_X2_45 dX2_add_21 ?_
  try simp only [sN_N, sN_A, sN_L, sN_R, sA_N, sA_A, sA_L, sA_R, sL_N, sL_A, sL_L, sL_R, sR_N, sR_A, sR_L, sR_R, reduceIte]
  refine aw_iconst hX (v := nI 1) (by decide) dX2_add_24 ?_
  first | with_reducible refine aw_isubN hX (by omega) dX2_add_25 ?_ | refine aw_isub hX dX2_add_25 ?_
  refine aw_finI (hR _ _ dX2_add_26) ?_ ?_
  · first | rfl | simp
  · rfl
set_option maxHeartbeats 4000000 in
set_option maxRecDepth 100000 in
theorem m_X6_restart (d : Nat) (G : GT) (S : St)  : rX6_restart G (d + 1) [.ref (gad G 7)] S none (sN S 11 0) := by
  refine runs_V (d := d) (by decide) (Nat.le_of_ble_eq_true rfl) (fun X (hX : XC X G d RX6 cX6_restart 1) hR => ?_)
  show AW X G 0 [.ref (gad G 7)] [] S
  refine aw_aload_0 hX dX6_restart_0 ?_
  refine aw_iconst hX (v := nI 0) (by decide) dX6_restart_1 ?_
  refine ap_X6_size hX fl_X6_31 dX6_restart_2 ?_
  refine aw_finV (hR _ _ dX6_restart_5) ?_
  rfl
set_option maxHeartbeats 4000000 in
set_option maxRecDepth 100000 in
theorem m_X6_addStop (d : Nat) (G : GT) (S : St) (f x y : Int32) (hs : S.1 11 < 6) : rX6_addStop G (d + 1) [.ref (gad G 7), .int f, .int x, .int y] S none (sN (sA (sA (sA S 40 (S.1 11) f) 41 (S.1 11) x) 42 (S.1 11) y) 11 (S.1 11 + 1)) := by
  refine runs_V (d := d) (by decide) (Nat.le_of_ble_eq_true rfl) (fun X (hX : XC X G d RX6 cX6_addStop 4) hR => ?_)
  show AW X G 0 [.ref (gad G 7), .int f, .int x, .int y] [] S
  refine aw_aload_0 hX dX6_addStop_0 ?_
  refine ag_X6_size hX fl_X6_31 dX6_addStop_1 ?_
  refine aw_bipush hX (v := nI 6) (by decide) dX6_addStop_4 ?_
  first | with_reducible refine aw_icmpgeN hX (tgt := 49) dX6_addStop_6 (by decide) (by omega) (by omega) (fun c_6 => ?_) (fun c_6 => ?_) | refine aw_jge hX (tgt := 49) dX6_addStop_6 (by decide) (fun c_6 => ?_) (fun c_6 => ?_)
  · exact absurd c_6 (by omega)
  · skip
    refine aw_aload_0 hX dX6_addStop_9 ?_
    refine ag_X6_flue hX fl_X6_11 dX6_addStop_10 ?_
    refine aw_aload_0 hX dX6_addStop_13 ?_
    refine ag_X6_size hX fl_X6_31 dX6_addStop_14 ?_
    refine aw_iload_1 hX dX6_addStop_17 ?_
    refine aw_iast hX dX6_addStop_18 rfl (fun _ => rfl) (by decide) (by omega) ?_
    refine aw_aload_0 hX dX6_addStop_19 ?_
    refine ag_X6_x hX fl_X6_15 dX6_addStop_20 ?_
    try simp only [sN_N, sN_A, sN_L, sN_R, sA_N, sA_A, sA_L, sA_R, sL_N, sL_A, sL_L, sL_R, sR_N, sR_A, sR_L, sR_R, reduceIte]
    refine aw_aload_0 hX dX6_addStop_23 ?_
    refine ag_X6_size hX fl_X6_31 dX6_addStop_24 ?_
    try simp only [sN_N, sN_A, sN_L, sN_R, sA_N, sA_A, sA_L, sA_R, sL_N, sL_A, sL_L, sL_R, sR_N, sR_A, sR_L, sR_R, reduceIte]
    refine aw_iload_2 hX dX6_addStop_27 ?_
    refine aw_iast hX dX6_addStop_28 rfl (fun _ => rfl) (by decide) (by omega) ?_
    refine aw_aload_0 hX dX6_addStop_29 ?_
    refine ag_X6_y hX fl_X6_18 dX6_addStop_30 ?_
    try simp only [sN_N, sN_A, sN_L, sN_R, sA_N, sA_A, sA_L, sA_R, sL_N, sL_A, sL_L, sL_R, sR_N, sR_A, sR_L, sR_R, reduceIte]
    refine aw_aload_0 hX dX6_addStop_33 ?_
    refine ag_X6_size hX fl_X6_31 dX6_addStop_34 ?_
    try simp only [sN_N, sN_A, sN_L, sN_R, sA_N, sA_A, sA_L, sA_R, sL_N, sL_A, sL_L, sL_R, sR_N, sR_A, sR_L, sR_R, reduceIte]
    refine aw_iload_3 hX dX6_addStop_37 ?_
    refine aw_iast hX dX6_addStop_38 rfl (fun _ => rfl) (by decide) (by omega) ?_
    refine aw_aload_0 hX dX6_addStop_39 ?_
    refine aw_dup hX rfl dX6_addStop_40 ?_
    refine ag_X6_size hX fl_X6_31 dX6_addStop_41 ?_
    try simp only [sN_N, sN_A, sN_L, sN_R, sA_N, sA_A, sA_L, sA_R, sL_N, sL_A, sL_L, sL_R, sR_N, sR_A, sR_L, sR_R, reduceIte]
    refine aw_iconst hX (v := nI 1) (by decide) dX6_addStop_44 ?_
    first | with_reducible refine aw_iaddN hX dX6_addStop_45 ?_ | refine aw_iadd hX dX6_addStop_45 ?_
    refine ap_X6_size hX fl_X6_31 dX6_addStop_46 ?_
    refine aw_finV (hR _ _ dX6_addStop_49) ?_
    rfl
set_option maxHeartbeats 4000000 in
set_option maxRecDepth 100000 in
theorem m_X6_flueAt (d : Nat) (G : GT) (S : St) (i : Nat) (hi : i < 6) (hs : S.1 11 ≤ 6) : rX6_flueAt G (d + 1) [.ref (gad G 7), .int (nI i)] S (some (.int (if i < S.1 11 then S.2.1 45 i else -9))) S := by
  refine runs_I (d := d) (by decide) (Nat.le_of_ble_eq_true rfl) (fun X (hX : XC X G d RX6 cX6_flueAt 2) hR => ?_)
  show AW X G 0 [.ref (gad G 7), .int (nI i)] [] S
  refine aw_iload_1 hX dX6_flueAt_0 ?_
  refine aw_iflt hX (tgt := 21) dX6_flueAt_1 (by decide) (fun c_1 => ?_) (fun c_1 => ?_)
  · exact absurd c_1 (nI_pos (by omega))
  · skip
    refine aw_iload_1 hX dX6_flueAt_4 ?_
    refine aw_aload_0 hX dX6_flueAt_5 ?_
    refine ag_X6_size hX fl_X6_31 dX6_flueAt_6 ?_
    first | with_reducible refine aw_icmpgeN hX (tgt := 21) dX6_flueAt_9 (by decide) (by omega) (by omega) (fun c_9 => ?_) (fun c_9 => ?_) | refine aw_jge hX (tgt := 21) dX6_flueAt_9 (by decide) (fun c_9 => ?_) (fun c_9 => ?_)
    · rw [if_neg (by omega)] at hR
      refine aw_bipush hX (v := (-9)) (by decide) dX6_flueAt_21 ?_
      refine aw_finI (hR _ _ dX6_flueAt_23) ?_ ?_
      · rfl
      · rfl
    · rw [if_pos (by omega)] at hR
      refine aw_aload_0 hX dX6_flueAt_12 ?_
      refine ag_X6_best hX fl_X6_28 dX6_flueAt_13 ?_
      refine aw_iload_1 hX dX6_flueAt_16 ?_
      refine aw_iald hX dX6_flueAt_17 rfl (by decide) (by omega) ?_
      refine aw_goto hX (tgt := 23) dX6_flueAt_18 (by decide) ?_
      refine aw_finI (hR _ _ dX6_flueAt_23) ?_ ?_
      · rfl
      · rfl
def ab (a : Int32) : Int32 := if 0 ≤ a then a else 0 - a
def wyR (x y : Nat → Int32) (i j : Nat) : Int32 := ab (x i - x j) + ab (y i - y j)
set_option maxHeartbeats 4000000 in
set_option maxRecDepth 100000 in
theorem m_X2_wayBetween (d : Nat) (G : GT) (S : St) (i j : Nat) (hi : i < 12) (hj : j < 12) : rX2_wayBetween G (d + 1) [.ref (gad G 3), .int (nI i), .int (nI j)] S (some (.int (wyR (S.2.1 24) (S.2.1 25) i j))) S := by
  refine runs_I (d := d) (by decide) (Nat.le_of_ble_eq_true rfl) (fun X (hX : XC X G d RX2 cX2_wayBetween 3) hR => ?_)
  show AW X G 0 [.ref (gad G 3), .int (nI i), .int (nI j)] [] S
  refine aw_aload_0 hX dX2_wayBetween_0 ?_
  refine ag_X2_x hX fl_X2_27 dX2_wayBetween_1 ?_
  refine aw_iload_1 hX dX2_wayBetween_4 ?_
  refine aw_iald hX dX2_wayBetween_5 rfl (by decide) (by omega) ?_
  refine aw_aload_0 hX dX2_wayBetween_6 ?_
  refine ag_X2_x hX fl_X2_27 dX2_wayBetween_7 ?_
  refine aw_iload_2 hX dX2_wayBetween_10 ?_
  refine aw_iald hX dX2_wayBetween_11 rfl (by decide) (by omega) ?_
  first | with_reducible refine aw_isubN hX (by omega) dX2_wayBetween_12 ?_ | refine aw_isub hX dX2_wayBetween_12 ?_
  refine aw_abs hX ml_X2_52 dX2_wayBetween_13 (Nat.le_of_ble_eq_true rfl) ?_
  refine aw_aload_0 hX dX2_wayBetween_16 ?_
  refine ag_X2_y hX fl_X2_30 dX2_wayBetween_17 ?_
  refine aw_iload_1 hX dX2_wayBetween_20 ?_
  refine aw_iald hX dX2_wayBetween_21 rfl (by decide) (by omega) ?_
  refine aw_aload_0 hX dX2_wayBetween_22 ?_
  refine ag_X2_y hX fl_X2_30 dX2_wayBetween_23 ?_
  refine aw_iload_2 hX dX2_wayBetween_26 ?_
  refine aw_iald hX dX2_wayBetween_27 rfl (by decide) (by omega) ?_
  first | with_reducible refine aw_isubN hX (by omega) dX2_wayBetween_28 ?_ | refine aw_isub hX dX2_wayBetween_28 ?_
  refine aw_abs hX ml_X2_52 dX2_wayBetween_29 (Nat.le_of_ble_eq_true rfl) ?_
  first | with_reducible refine aw_iaddN hX dX2_wayBetween_32 ?_ | refine aw_iadd hX dX2_wayBetween_32 ?_
  refine aw_finI (hR _ _ dX2_wayBetween_33) ?_ ?_
  · rfl
  · rfl
set_option maxHeartbeats 4000000 in
set_option maxRecDepth 100000 in
theorem m_X2_openPull (d : Nat) (G : GT) (S : St) (i k : Nat) (hi : i < 12) (hw : ¬ S.2.1 22 i ≤ 0) (hk : S.2.1 20 i = nI k) (hk3 : k < 3) : rX2_openPull G (d + 1) [.ref (gad G 3), .int (nI i)] S (some (.int (S.2.1 21 i * gpull k / S.2.1 22 i))) S := by
  refine runs_I (d := d) (by decide) (Nat.le_of_ble_eq_true rfl) (fun X (hX : XC X G d RX2 cX2_openPull 3) hR => ?_)
  show AW X G 0 [.ref (gad G 3), .int (nI i), .null] [] S
  refine aw_aload_0 hX dX2_openPull_0 ?_
  refine ag_X2_width hX fl_X2_21 dX2_openPull_1 ?_
  refine aw_iload_1 hX dX2_openPull_4 ?_
  refine aw_iald hX dX2_openPull_5 rfl (by decide) (by omega) ?_
  refine aw_istore_2 hX rfl (by decide) dX2_openPull_6 ?_
  refine aw_iload_2 hX dX2_openPull_7 ?_
  refine aw_ifle hX (tgt := 33) dX2_openPull_8 (by decide) (fun c_8 => ?_) (fun c_8 => ?_)
  · exact absurd c_8 hw
  · skip
    refine aw_aload_0 hX dX2_openPull_11 ?_
    refine ag_X2_height hX fl_X2_18 dX2_openPull_12 ?_
    refine aw_iload_1 hX dX2_openPull_15 ?_
    refine aw_iald hX dX2_openPull_16 rfl (by decide) (by omega) ?_
    refine aw_gets hX fl_X2_49 dX2_openPull_17 ?_
    refine aw_aload_0 hX dX2_openPull_20 ?_
    refine ag_X2_fuel hX fl_X2_15 dX2_openPull_21 ?_
    refine aw_iload_1 hX dX2_openPull_24 ?_
    refine aw_iald hX dX2_openPull_25 rfl (by decide) (by omega) ?_
    rw [hk]
    refine aw_tald hX dX2_openPull_26 hk3 ?_
    first | with_reducible refine aw_imulN hX dX2_openPull_27 ?_ | refine aw_imul hX dX2_openPull_27 ?_
    refine aw_iload_2 hX dX2_openPull_28 ?_
    refine aw_idiv hX (fun h => hw (by rw [h]; decide)) dX2_openPull_29 ?_
    refine aw_goto hX (tgt := 34) dX2_openPull_30 (by decide) ?_
    refine aw_finI (hR _ _ dX2_openPull_34) ?_ ?_
    · rfl
    · rfl
