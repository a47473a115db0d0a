theorem inR_m1 {f : Int32} {n : Nat} (hn : n < 2 ^ 30) : inR f (nI 0) (nI n - nI 1) = hasB f n := by
  simp only [inR, hasB]
  congr 1
  rw [← decide_not, decide_eq_decide, Int32.le_iff_toInt_le, Int32.le_iff_toInt_le, pk_sub_toInt hn (by decide), nI_toInt (by omega)]
  omega
theorem nI0 : nI 0 = 0 := rfl
def ofM (S : St) (i c : Nat) : Int32 := S.2.1 52 (11 * i + c)
def knM (S : St) (f day : Int32) : Int32 := (knL (fun k => S.2.1 53 (4 * k)) (fun k => S.2.1 53 (4 * k + 1)) (fun k => S.2.1 53 (4 * k + 3)) (fun k => S.2.1 53 (4 * k + 2)) f day (S.1 19)).1
def foM (S : St) (i : Nat) : Bool := decide (nI 3 ≤ ofM S i 10) || decide (knM S (nI i) (nI (S.1 14)) = 0)
def ab2 (a : Int32) : Int32 := if 0 ≤ a then a else -a
def faM (S : St) (i g : Nat) : Int32 := ab2 (ofM S g 5 - ofM S i 5) + ab2 (ofM S g 6 - ofM S i 6)
def neL (fa hd : Nat → Int32) (h : Int32) : Nat → Int32
  | 0 => nI 100
  | n + 1 => if hd n = h ∧ ¬ neL fa hd h n ≤ fa n then fa n else neL fa hd h n
def dmL (ne : Nat → Int32) (il : Nat → Int32) : Nat → Int32 × Int32
  | 0 => (-9, nI 1000)
  | c + 1 => if il (3 - c) = 0 ∧ ne (3 - c) ≤ (dmL ne il c).2 then (nI (3 - c), ne (3 - c)) else dmL ne il c
def neM (S : St) (i h : Nat) : Int32 := neL (faM S i) (fun g => ofM S g 7) (nI h) (S.1 18)
def doM (S : St) (i : Nat) : Int32 := if S.2.1 56 (tn (ofM S i 7)) = 0 then ofM S i 7 else (dmL (neM S i) (S.2.1 56) 4).1
def byM (v : Int64) (k : Nat) : Int32 := ((v >>> ((nI (8 * k)).toInt64 &&& 63)) &&& 255).toInt32
def apM (v : Int64) : Nat → St → St
  | 0, S => S
  | k + 1, S => apM v k (sN (sA S 46 (S.1 15) (byM v k)) 15 (S.1 15 + 1))
theorem apM_15 (v : Int64) : ∀ (k : Nat) (S : St), (apM v k S).1 15 = S.1 15 + k
  | 0, S => rfl
  | k + 1, S => by rw [apM, apM_15 v k]; simp only [sN_N, reduceIte]; omega
def spM (S : St) (fuel day : Int32) : Int32 := spO (S.1 16) (S.2.1 47) (S.2.1 48) (S.2.1 49) (S.2.1 50) (S.2.1 51) fuel day
def duM (S : St) (fuel : Int32) (w : Nat) : Nat := duO (S.1 16) (S.2.1 47) (S.2.1 48) (S.2.1 49) (S.2.1 50) (S.2.1 51) fuel w
def BmOK (S : St) : Prop := S.1 16 ≤ 6 ∧ StOK (S.1 16) (S.2.1 48)
def swL (S : St) (f day : Int32) (cm : Int32) (n : Nat) : Int32 := match laL (fun k => S.2.1 55 (4 * k)) (fun k => S.2.1 55 (4 * k + 1)) f day n with
  | none => cm
  | some k => S.2.1 55 (4 * k + 1)
def swhL (S : St) (f day : Int32) (n : Nat) : Int32 := match laL (fun k => S.2.1 55 (4 * k)) (fun k => S.2.1 55 (4 * k + 1)) f day n with
  | none => -9
  | some k => S.2.1 55 (4 * k + 2)
set_option maxHeartbeats 4000000 in
set_option maxRecDepth 100000 in
theorem m_X8_of (d : Nat) (G : GT) (S : St) (i c : Nat) (hi : i < 12) (hc : c < 11) : rX8_of G (d + 1) [.ref (gad G 8), .int (nI i), .int (nI c)] S (some (.int (ofM S i c))) S := by
  refine runs_I (d := d) (by decide) (Nat.le_of_ble_eq_true rfl) (fun X (hX : XC X G d RX8 cX8_of 3) hR => ?_)
  show AW X G 0 [.ref (gad G 8), .int (nI i), .int (nI c)] [] S
  refine aw_aload_0 hX dX8_of_0 ?_
  refine ag_X8_flue hX fl_X8_28 dX8_of_1 ?_
  refine aw_bipush hX (v := nI 11) (by decide) dX8_of_4 ?_
  refine aw_iload_1 hX dX8_of_6 ?_
  first | with_reducible refine aw_imulN hX dX8_of_7 ?_ | refine aw_imul hX dX8_of_7 ?_
  refine aw_iload_2 hX dX8_of_8 ?_
  first | with_reducible refine aw_iaddN hX dX8_of_9 ?_ | refine aw_iadd hX dX8_of_9 ?_
  refine aw_iald hX dX8_of_10 rfl (by decide) (by omega) ?_
  refine aw_finI (hR _ _ dX8_of_11) ?_ ?_
  · rfl
  · rfl
set_option maxHeartbeats 4000000 in
set_option maxRecDepth 100000 in
theorem m_X8_isFlue (d : Nat) (G : GT) (S : St) (f : Int32) (b : Bool) (hs : S.1 18 ≤ 12) (h : hasB f (S.1 18) = b) : rX8_isFlue G (d + 2) [.ref (gad G 8), .int f] S (some (.int (bI (b)))) S := by
  refine runs_Z (d := (d + 1)) (by decide) (Nat.le_of_ble_eq_true rfl) (fun X (hX : XC X G (d + 1) RX8 cX8_isFlue 2) hR => ?_)
  show AW X G 0 [.ref (gad G 8), .int f] [] S
  refine aw_iload_1 hX dX8_isFlue_0 ?_
  refine aw_iconst hX (v := nI 0) (by decide) dX8_isFlue_1 ?_
  refine aw_aload_0 hX dX8_isFlue_2 ?_
  refine ag_X8_flues hX fl_X8_93 dX8_isFlue_3 ?_
  refine aw_iconst hX (v := nI 1) (by decide) dX8_isFlue_6 ?_
  refine aw_isub hX dX8_isFlue_7 ?_
  refine cs_X8_in hX ml_X8_60 dX8_isFlue_8 (m_X8_in_b _ G S _ _ _ b (by rw [inR_m1 (by omega)]; exact h)) (Nat.le_of_ble_eq_true rfl) ?_
  refine aw_finI (hR _ _ dX8_isFlue_11) ?_ ?_
  · rfl
  · rfl
set_option maxHeartbeats 4000000 in
set_option maxRecDepth 100000 in
theorem m_X8_knownOn (d : Nat) (G : GT) (S : St) (f day : Int32) (hs : S.1 19 ≤ 30) : rX8_knownOn G (d + 1) [.ref (gad G 8), .int f, .int day] S (some (.int (knM S f day))) S := by
  refine runs_I (d := d) (by decide) (Nat.le_of_ble_eq_true rfl) (fun X (hX : XC X G d RX8 cX8_knownOn 6) hR => ?_)
  show AW X G 0 [.ref (gad G 8), .int f, .int day, .null, .null, .null] [] S
  have loop : ∀ n i : Nat, i + n = S.1 19 → ∀ (fo la : Int32), (fo, la) = knL (fun k => S.2.1 53 (4 * k)) (fun k => S.2.1 53 (4 * k + 1)) (fun k => S.2.1 53 (4 * k + 3)) (fun k => S.2.1 53 (4 * k + 2)) f day i → AW X G 9 [.ref (gad G 8), .int f, .int day, .int fo, .int la, .int (nI i)] [] S := by
    intro n
    induction n with
    | zero =>
      intro i hi fo la hp
      refine aw_iload_5 hX dX8_knownOn_9 ?_
      refine aw_aload_0 hX dX8_knownOn_11 ?_
      refine ag_X8_looks hX fl_X8_110 dX8_knownOn_12 ?_
      first | with_reducible refine aw_icmpgeN hX (tgt := 108) dX8_knownOn_15 (by decide) (by omega) (by omega) (fun c_15 => ?_) (fun c_15 => ?_) | refine aw_jge hX (tgt := 108) dX8_knownOn_15 (by decide) (fun c_15 => ?_) (fun c_15 => ?_)
      · skip
        refine aw_iload_3 hX dX8_knownOn_108 ?_
        refine aw_finI (hR _ _ dX8_knownOn_109) ?_ ?_
        · rw [knM, show S.1 19 = i by omega, ← hp]
        · rfl
      · exact absurd c_15 (by omega)
    | succ n ih =>
      intro i hi fo la hp
      refine aw_iload_5 hX dX8_knownOn_9 ?_
      refine aw_aload_0 hX dX8_knownOn_11 ?_
      refine ag_X8_looks hX fl_X8_110 dX8_knownOn_12 ?_
      first | with_reducible refine aw_icmpgeN hX (tgt := 108) dX8_knownOn_15 (by decide) (by omega) (by omega) (fun c_15 => ?_) (fun c_15 => ?_) | refine aw_jge hX (tgt := 108) dX8_knownOn_15 (by decide) (fun c_15 => ?_) (fun c_15 => ?_)
      · exact absurd c_15 (by omega)
      · skip
        refine aw_aload_0 hX dX8_knownOn_18 ?_
        refine ag_X8_look hX fl_X8_31 dX8_knownOn_19 ?_
        refine aw_iconst hX (v := nI 4) (by decide) dX8_knownOn_22 ?_
        refine aw_iload_5 hX dX8_knownOn_23 ?_
        first | with_reducible refine aw_imulN hX dX8_knownOn_25 ?_ | refine aw_imul hX dX8_knownOn_25 ?_
        refine aw_iald hX dX8_knownOn_26 rfl (by decide) (by omega) ?_
        refine aw_iload_1 hX dX8_knownOn_27 ?_
        first | with_reducible refine aw_icmpneN hX (tgt := 102) dX8_knownOn_28 (by decide) (by omega) (by omega) (fun c_28 => ?_) (fun c_28 => ?_) | refine aw_icmpne hX (tgt := 102) dX8_knownOn_28 (by decide) (fun c_28 => ?_) (fun c_28 => ?_)
        · skip
          first | with_reducible refine aw_iinc_5N hX rfl (by decide) dX8_knownOn_102 ?_ | refine aw_iinc_5 hX rfl (by decide) dX8_knownOn_102 ?_
          refine aw_goto hX (tgt := 9) dX8_knownOn_105 (by decide) ?_
          exact ih (i + 1) (by omega) _ _ (by simp only [knL, ← hp]; simp [c_15, c_28])
        · skip
          refine aw_aload_0 hX dX8_knownOn_31 ?_
          refine ag_X8_look hX fl_X8_31 dX8_knownOn_32 ?_
          refine aw_iconst hX (v := nI 4) (by decide) dX8_knownOn_35 ?_
          refine aw_iload_5 hX dX8_knownOn_36 ?_
          first | with_reducible refine aw_imulN hX dX8_knownOn_38 ?_ | refine aw_imul hX dX8_knownOn_38 ?_
          refine aw_iconst hX (v := nI 3) (by decide) dX8_knownOn_39 ?_
          first | with_reducible refine aw_iaddN hX dX8_knownOn_40 ?_ | refine aw_iadd hX dX8_knownOn_40 ?_
          refine aw_iald hX dX8_knownOn_41 rfl (by decide) (by omega) ?_
          refine aw_iload_2 hX dX8_knownOn_42 ?_
          first | with_reducible refine aw_icmpgtN hX (tgt := 102) dX8_knownOn_43 (by decide) (by omega) (by omega) (fun c_43 => ?_) (fun c_43 => ?_) | refine aw_jgt hX (tgt := 102) dX8_knownOn_43 (by decide) (fun c_43 => ?_) (fun c_43 => ?_)
          · skip
            first | with_reducible refine aw_iinc_5N hX rfl (by decide) dX8_knownOn_102 ?_ | refine aw_iinc_5 hX rfl (by decide) dX8_knownOn_102 ?_
            refine aw_goto hX (tgt := 9) dX8_knownOn_105 (by decide) ?_
            exact ih (i + 1) (by omega) _ _ (by simp only [knL, ← hp]; simp [c_15, c_28, c_43])
          · skip
            refine aw_aload_0 hX dX8_knownOn_46 ?_
            refine ag_X8_look hX fl_X8_31 dX8_knownOn_47 ?_
            refine aw_iconst hX (v := nI 4) (by decide) dX8_knownOn_50 ?_
            refine aw_iload_5 hX dX8_knownOn_51 ?_
            first | with_reducible refine aw_imulN hX dX8_knownOn_53 ?_ | refine aw_imul hX dX8_knownOn_53 ?_
            refine aw_iconst hX (v := nI 1) (by decide) dX8_knownOn_54 ?_
            first | with_reducible refine aw_iaddN hX dX8_knownOn_55 ?_ | refine aw_iadd hX dX8_knownOn_55 ?_
            refine aw_iald hX dX8_knownOn_56 rfl (by decide) (by omega) ?_
            refine aw_iload_2 hX dX8_knownOn_57 ?_
            first | with_reducible refine aw_icmpgtN hX (tgt := 102) dX8_knownOn_58 (by decide) (by omega) (by omega) (fun c_58 => ?_) (fun c_58 => ?_) | refine aw_jgt hX (tgt := 102) dX8_knownOn_58 (by decide) (fun c_58 => ?_) (fun c_58 => ?_)
            · skip
              first | with_reducible refine aw_iinc_5N hX rfl (by decide) dX8_knownOn_102 ?_ | refine aw_iinc_5 hX rfl (by decide) dX8_knownOn_102 ?_
              refine aw_goto hX (tgt := 9) dX8_knownOn_105 (by decide) ?_
              exact ih (i + 1) (by omega) _ _ (by simp only [knL, ← hp]; simp [c_15, c_28, c_43, c_58])
            · skip
              refine aw_aload_0 hX dX8_knownOn_61 ?_
              refine ag_X8_look hX fl_X8_31 dX8_knownOn_62 ?_
              refine aw_iconst hX (v := nI 4) (by decide) dX8_knownOn_65 ?_
              refine aw_iload_5 hX dX8_knownOn_66 ?_
              first | with_reducible refine aw_imulN hX dX8_knownOn_68 ?_ | refine aw_imul hX dX8_knownOn_68 ?_
              refine aw_iconst hX (v := nI 1) (by decide) dX8_knownOn_69 ?_
              first | with_reducible refine aw_iaddN hX dX8_knownOn_70 ?_ | refine aw_iadd hX dX8_knownOn_70 ?_
              refine aw_iald hX dX8_knownOn_71 rfl (by decide) (by omega) ?_
              refine aw_iload_4 hX dX8_knownOn_72 ?_
              first | with_reducible refine aw_icmpltN hX (tgt := 102) dX8_knownOn_74 (by decide) (by omega) (by omega) (fun c_74 => ?_) (fun c_74 => ?_) | refine aw_jlt hX (tgt := 102) dX8_knownOn_74 (by decide) (fun c_74 => ?_) (fun c_74 => ?_)
              · skip
                first | with_reducible refine aw_iinc_5N hX rfl (by decide) dX8_knownOn_102 ?_ | refine aw_iinc_5 hX rfl (by decide) dX8_knownOn_102 ?_
                refine aw_goto hX (tgt := 9) dX8_knownOn_105 (by decide) ?_
                exact ih (i + 1) (by omega) _ _ (by simp only [knL, ← hp]; simp [c_15, c_28, c_43, c_58, c_74])
              · skip
                refine aw_aload_0 hX dX8_knownOn_77 ?_
                refine ag_X8_look hX fl_X8_31 dX8_knownOn_78 ?_
                refine aw_iconst hX (v := nI 4) (by decide) dX8_knownOn_81 ?_
                refine aw_iload_5 hX dX8_knownOn_82 ?_
                first | with_reducible refine aw_imulN hX dX8_knownOn_84 ?_ | refine aw_imul hX dX8_knownOn_84 ?_
                refine aw_iconst hX (v := nI 1) (by decide) dX8_knownOn_85 ?_
                first | with_reducible refine aw_iaddN hX dX8_knownOn_86 ?_ | refine aw_iadd hX dX8_knownOn_86 ?_
                refine aw_iald hX dX8_knownOn_87 rfl (by decide) (by omega) ?_
                refine aw_istore_4 hX rfl (by decide) dX8_knownOn_88 ?_
                refine aw_aload_0 hX dX8_knownOn_90 ?_
                refine ag_X8_look hX fl_X8_31 dX8_knownOn_91 ?_
                refine aw_iconst hX (v := nI 4) (by decide) dX8_knownOn_94 ?_
                refine aw_iload_5 hX dX8_knownOn_95 ?_
                first | with_reducible refine aw_imulN hX dX8_knownOn_97 ?_ | refine aw_imul hX dX8_knownOn_97 ?_
                refine aw_iconst hX (v := nI 2) (by decide) dX8_knownOn_98 ?_
                first | with_reducible refine aw_iaddN hX dX8_knownOn_99 ?_ | refine aw_iadd hX dX8_knownOn_99 ?_
                refine aw_iald hX dX8_knownOn_100 rfl (by decide) (by omega) ?_
                refine aw_istore_3 hX rfl (by decide) dX8_knownOn_101 ?_
                first | with_reducible refine aw_iinc_5N hX rfl (by decide) dX8_knownOn_102 ?_ | refine aw_iinc_5 hX rfl (by decide) dX8_knownOn_102 ?_
                refine aw_goto hX (tgt := 9) dX8_knownOn_105 (by decide) ?_
                exact ih (i + 1) (by omega) _ _ (by simp only [knL, ← hp]; simp [c_15, c_28, c_43, c_58, c_74])
  refine aw_bipush hX (v := (-9)) (by decide) dX8_knownOn_0 ?_
  refine aw_istore_3 hX rfl (by decide) dX8_knownOn_2 ?_
  refine aw_iconst hX (v := (-1)) (by decide) dX8_knownOn_3 ?_
  refine aw_istore_4 hX rfl (by decide) dX8_knownOn_4 ?_
  refine aw_iconst hX (v := nI 0) (by decide) dX8_knownOn_6 ?_
  refine aw_istore_5 hX rfl (by decide) dX8_knownOn_7 ?_
  exact loop (S.1 19) 0 (by omega) _ _ rfl
set_option maxHeartbeats 4000000 in
set_option maxRecDepth 100000 in
theorem m_X8_isForbidden (d : Nat) (G : GT) (S : St) (i : Nat) (hi : i < 12) (h19 : S.1 19 ≤ 30) : rX8_isForbidden G (d + 2) [.ref (gad G 8), .int (nI i)] S (some (.int (bI (foM S i)))) S := by
  refine runs_Z (d := (d + 1)) (by decide) (Nat.le_of_ble_eq_true rfl) (fun X (hX : XC X G (d + 1) RX8 cX8_isForbidden 2) hR => ?_)
  show AW X G 0 [.ref (gad G 8), .int (nI i)] [] S
  refine aw_aload_0 hX dX8_isForbidden_0 ?_
  refine aw_iload_1 hX dX8_isForbidden_1 ?_
  refine aw_bipush hX (v := nI 10) (by decide) dX8_isForbidden_2 ?_
  refine cv_X8_of hX ml_X8_99 dX8_isForbidden_4 (m_X8_of _ G S i 10 hi (by decide)) (Nat.le_of_ble_eq_true rfl) ?_
  refine aw_iconst hX (v := nI 3) (by decide) dX8_isForbidden_7 ?_
  refine aw_jge hX (tgt := 23) dX8_isForbidden_8 (by decide) (fun c_8 => ?_) (fun c_8 => ?_)
  · skip
    refine aw_iconst hX (v := nI 1) (by decide) dX8_isForbidden_23 ?_
    refine aw_goto hX (tgt := 28) dX8_isForbidden_24 (by decide) ?_
    refine aw_finI (hR _ _ dX8_isForbidden_28) ?_ ?_
    · first | exact bF (by simp [foM, c_8]) | exact bT (by simp [foM, c_8])
    · rfl
  · skip
    refine aw_aload_0 hX dX8_isForbidden_11 ?_
    refine aw_iload_1 hX dX8_isForbidden_12 ?_
    refine aw_aload_0 hX dX8_isForbidden_13 ?_
    refine ag_X8_today hX fl_X8_86 dX8_isForbidden_14 ?_
    refine cv_X8_knownOn hX ml_X8_113 dX8_isForbidden_17 (m_X8_knownOn _ G S _ _ h19) (Nat.le_of_ble_eq_true rfl) ?_
    first | with_reducible refine aw_ifneB hX (tgt := 27) dX8_isForbidden_20 (by decide) (fun c_20 => ?_) (fun c_20 => ?_) | refine aw_ifne hX (tgt := 27) dX8_isForbidden_20 (by decide) (fun c_20 => ?_) (fun c_20 => ?_)
    · skip
      refine aw_iconst hX (v := nI 0) (by decide) dX8_isForbidden_27 ?_
      refine aw_finI (hR _ _ dX8_isForbidden_28) ?_ ?_
      · first | exact bF (by simp [foM, c_8, c_20]) | exact bT (by simp [foM, c_8, c_20])
      · rfl
    · skip
      refine aw_iconst hX (v := nI 1) (by decide) dX8_isForbidden_23 ?_
      refine aw_goto hX (tgt := 28) dX8_isForbidden_24 (by decide) ?_
      refine aw_finI (hR _ _ dX8_isForbidden_28) ?_ ?_
      · first | exact bF (by simp [foM, c_8, c_20]) | exact bT (by simp [foM, c_8, c_20])
      · rfl
set_option maxHeartbeats 4000000 in
set_option maxRecDepth 100000 in
theorem m_X8_doer (d : Nat) (G : GT) (S : St) (i : Nat) (hi : i < 12) (h18 : S.1 18 ≤ 12) (hh : ofM S i 7 = nI (tn (ofM S i 7)) ∧ tn (ofM S i 7) < 4) : rX8_doer G (d + 2) [.ref (gad G 8), .int (nI i)] S (some (.int (doM S i))) S := by
  refine runs_I (d := (d + 1)) (by decide) (Nat.le_of_ble_eq_true rfl) (fun X (hX : XC X G (d + 1) RX8 cX8_doer 11) hR => ?_)
  show AW X G 0 [.ref (gad G 8), .int (nI i), .null, .null, .null, .null, .null, .null, .null, .null, .null] [] S
  refine aw_aload_0 hX dX8_doer_0 ?_
  refine aw_iload_1 hX dX8_doer_1 ?_
  refine aw_bipush hX (v := nI 7) (by decide) dX8_doer_2 ?_
  refine cv_X8_of hX ml_X8_99 dX8_doer_4 (m_X8_of _ G S i 7 hi (by decide)) (Nat.le_of_ble_eq_true rfl) ?_
  refine aw_istore_2 hX rfl (by decide) dX8_doer_7 ?_
  refine aw_aload_0 hX dX8_doer_8 ?_
  refine ag_X8_isIll hX fl_X8_44 dX8_doer_9 ?_
  refine aw_iload_2 hX dX8_doer_12 ?_
  refine aw_ti hh.1 ?_
  refine aw_zald hX dX8_doer_13 rfl (by decide) hh.2 ?_
  first | with_reducible refine aw_ifneB hX (tgt := 19) dX8_doer_14 (by decide) (fun c_14 => ?_) (fun c_14 => ?_) | refine aw_ifne hX (tgt := 19) dX8_doer_14 (by decide) (fun c_14 => ?_) (fun c_14 => ?_)
  · replace c_14 : ¬ S.2.1 56 (tn (ofM S i 7)) = 0 := c_14
    have hil := c_14
    have inner : ∀ (h : Nat) (be le : Int32), h < 4 → ∀ n g : Nat, g + n = S.1 18 → ∀ (ne : Int32) (v8 v9 v10 : Value), v8.category = 1 → v9.category = 1 → v10.category = 1 → ne = neL (faM S i) (fun g => ofM S g 7) (nI h) g → (∀ a b c : Value, a.category = 1 → b.category = 1 → c.category = 1 → AW X G 149 [.ref (gad G 8), .int (nI i), .int (ofM S i 7), .int be, .int le, .int (nI h), .int (neL (faM S i) (fun g => ofM S g 7) (nI h) (S.1 18)), .int (nI (S.1 18)), a, b, c] [] S) → AW X G 42 [.ref (gad G 8), .int (nI i), .int (ofM S i 7), .int be, .int le, .int (nI h), .int ne, .int (nI g), v8, v9, v10] [] S := by
      intro h be le hh4 n
      induction n with
      | zero =>
        intro g hg ne v8 v9 v10 h8 h9 h10 hp hk
        refine aw_iload_7 hX dX8_doer_42 ?_
        refine aw_aload_0 hX dX8_doer_44 ?_
        refine ag_X8_flues hX fl_X8_93 dX8_doer_45 ?_
        first | with_reducible refine aw_icmpgeN hX (tgt := 149) dX8_doer_48 (by decide) (by omega) (by omega) (fun c_48 => ?_) (fun c_48 => ?_) | refine aw_jge hX (tgt := 149) dX8_doer_48 (by decide) (fun c_48 => ?_) (fun c_48 => ?_)
        · skip
          rw [show S.1 18 = g by omega, ← hp] at hk
          exact hk _ _ _ h8 h9 h10
        · exact absurd c_48 (by omega)
      | succ n ih =>
        intro g hg ne v8 v9 v10 h8 h9 h10 hp hk
        refine aw_iload_7 hX dX8_doer_42 ?_
        refine aw_aload_0 hX dX8_doer_44 ?_
        refine ag_X8_flues hX fl_X8_93 dX8_doer_45 ?_
        first | with_reducible refine aw_icmpgeN hX (tgt := 149) dX8_doer_48 (by decide) (by omega) (by omega) (fun c_48 => ?_) (fun c_48 => ?_) | refine aw_jge hX (tgt := 149) dX8_doer_48 (by decide) (fun c_48 => ?_) (fun c_48 => ?_)
        · exact absurd c_48 (by omega)
        · skip
          refine aw_aload_0 hX dX8_doer_51 ?_
          refine aw_iload_7 hX dX8_doer_52 ?_
          refine aw_iconst hX (v := nI 5) (by decide) dX8_doer_54 ?_
          refine cv_X8_of hX ml_X8_99 dX8_doer_55 (m_X8_of _ G S g 5 (by omega) (by decide)) (Nat.le_of_ble_eq_true rfl) ?_
          refine aw_aload_0 hX dX8_doer_58 ?_
          refine aw_iload_1 hX dX8_doer_59 ?_
          refine aw_iconst hX (v := nI 5) (by decide) dX8_doer_60 ?_
          refine cv_X8_of hX ml_X8_99 dX8_doer_61 (m_X8_of _ G S i 5 hi (by decide)) (Nat.le_of_ble_eq_true rfl) ?_
          first | with_reducible refine aw_isubN hX (by omega) dX8_doer_64 ?_ | refine aw_isub hX dX8_doer_64 ?_
          refine aw_istore_8 hX rfl (by decide) dX8_doer_65 ?_
          refine aw_aload_0 hX dX8_doer_67 ?_
          refine aw_iload_7 hX dX8_doer_68 ?_
          refine aw_bipush hX (v := nI 6) (by decide) dX8_doer_70 ?_
          refine cv_X8_of hX ml_X8_99 dX8_doer_72 (m_X8_of _ G S g 6 (by omega) (by decide)) (Nat.le_of_ble_eq_true rfl) ?_
          refine aw_aload_0 hX dX8_doer_75 ?_
          refine aw_iload_1 hX dX8_doer_76 ?_
          refine aw_bipush hX (v := nI 6) (by decide) dX8_doer_77 ?_
          refine cv_X8_of hX ml_X8_99 dX8_doer_79 (m_X8_of _ G S i 6 hi (by decide)) (Nat.le_of_ble_eq_true rfl) ?_
          first | with_reducible refine aw_isubN hX (by omega) dX8_doer_82 ?_ | refine aw_isub hX dX8_doer_82 ?_
          refine aw_istore_9 hX rfl (by decide) dX8_doer_83 ?_
          refine aw_iload_8 hX dX8_doer_85 ?_
          refine aw_ifge hX (tgt := 96) dX8_doer_87 (by decide) (fun c_87 => ?_) (fun c_87 => ?_)
          · skip
            refine aw_iload_8 hX dX8_doer_96 ?_
            refine aw_iload_9 hX dX8_doer_98 ?_
            refine aw_ifge hX (tgt := 109) dX8_doer_100 (by decide) (fun c_100 => ?_) (fun c_100 => ?_)
            · skip
              refine aw_iload_9 hX dX8_doer_109 ?_
              refine aw_iadd hX dX8_doer_111 ?_
              refine aw_ti (y := faM S i g) (by rw [faM, ab2, ab2]; simp only [c_48, c_87, c_100, if_true, if_false, reduceIte]) ?_
              refine aw_istore_10 hX rfl (by decide) dX8_doer_112 ?_
              refine aw_aload_0 hX dX8_doer_114 ?_
              refine aw_iload_7 hX dX8_doer_115 ?_
              refine aw_bipush hX (v := nI 7) (by decide) dX8_doer_117 ?_
              refine cv_X8_of hX ml_X8_99 dX8_doer_119 (m_X8_of _ G S g 7 (by omega) (by decide)) (Nat.le_of_ble_eq_true rfl) ?_
              refine aw_iload_5 hX dX8_doer_122 ?_
              first | with_reducible refine aw_icmpneN hX (tgt := 139) dX8_doer_124 (by decide) (by omega) (by omega) (fun c_124 => ?_) (fun c_124 => ?_) | refine aw_icmpne hX (tgt := 139) dX8_doer_124 (by decide) (fun c_124 => ?_) (fun c_124 => ?_)
              · skip
                refine aw_iload_6 hX dX8_doer_139 ?_
                refine aw_istore_6 hX rfl (by decide) dX8_doer_141 ?_
                first | with_reducible refine aw_iinc_7N hX rfl (by decide) dX8_doer_143 ?_ | refine aw_iinc_7 hX rfl (by decide) dX8_doer_143 ?_
                refine aw_goto hX (tgt := 42) dX8_doer_146 (by decide) ?_
                exact ih (g + 1) (by omega) _ _ _ _ rfl rfl rfl (by simp only [neL, ← hp]; simp [c_48, c_87, c_100, c_124]) hk
              · skip
                refine aw_iload_10 hX dX8_doer_127 ?_
                refine aw_iload_6 hX dX8_doer_129 ?_
                first | with_reducible refine aw_icmpgeN hX (tgt := 139) dX8_doer_131 (by decide) (by omega) (by omega) (fun c_131 => ?_) (fun c_131 => ?_) | refine aw_jge hX (tgt := 139) dX8_doer_131 (by decide) (fun c_131 => ?_) (fun c_131 => ?_)
                · skip
                  refine aw_iload_6 hX dX8_doer_139 ?_
                  refine aw_istore_6 hX rfl (by decide) dX8_doer_141 ?_
                  first | with_reducible refine aw_iinc_7N hX rfl (by decide) dX8_doer_143 ?_ | refine aw_iinc_7 hX rfl (by decide) dX8_doer_143 ?_
                  refine aw_goto hX (tgt := 42) dX8_doer_146 (by decide) ?_
                  exact ih (g + 1) (by omega) _ _ _ _ rfl rfl rfl (by simp only [neL, ← hp]; simp [c_48, c_87, c_100, c_124, c_131]) hk
                · skip
                  refine aw_iload_10 hX dX8_doer_134 ?_
                  refine aw_goto hX (tgt := 141) dX8_doer_136 (by decide) ?_
                  refine aw_istore_6 hX rfl (by decide) dX8_doer_141 ?_
                  first | with_reducible refine aw_iinc_7N hX rfl (by decide) dX8_doer_143 ?_ | refine aw_iinc_7 hX rfl (by decide) dX8_doer_143 ?_
                  refine aw_goto hX (tgt := 42) dX8_doer_146 (by decide) ?_
                  exact ih (g + 1) (by omega) _ _ _ _ rfl rfl rfl (by simp only [neL, ← hp]; simp [c_48, c_87, c_100, c_124, c_131]) hk
            · skip
              refine aw_iload_9 hX dX8_doer_103 ?_
              refine aw_ineg hX dX8_doer_105 ?_
              refine aw_goto hX (tgt := 111) dX8_doer_106 (by decide) ?_
              refine aw_iadd hX dX8_doer_111 ?_
              refine aw_ti (y := faM S i g) (by rw [faM, ab2, ab2]; simp only [c_48, c_87, c_100, if_true, if_false, reduceIte]) ?_
              refine aw_istore_10 hX rfl (by decide) dX8_doer_112 ?_
              refine aw_aload_0 hX dX8_doer_114 ?_
              refine aw_iload_7 hX dX8_doer_115 ?_
              refine aw_bipush hX (v := nI 7) (by decide) dX8_doer_117 ?_
              refine cv_X8_of hX ml_X8_99 dX8_doer_119 (m_X8_of _ G S g 7 (by omega) (by decide)) (Nat.le_of_ble_eq_true rfl) ?_
              refine aw_iload_5 hX dX8_doer_122 ?_
              first | with_reducible refine aw_icmpneN hX (tgt := 139) dX8_doer_124 (by decide) (by omega) (by omega) (fun c_124 => ?_) (fun c_124 => ?_) | refine aw_icmpne hX (tgt := 139) dX8_doer_124 (by decide) (fun c_124 => ?_) (fun c_124 => ?_)
              · skip
                refine aw_iload_6 hX dX8_doer_139 ?_
                refine aw_istore_6 hX rfl (by decide) dX8_doer_141 ?_
                first | with_reducible refine aw_iinc_7N hX rfl (by decide) dX8_doer_143 ?_ | refine aw_iinc_7 hX rfl (by decide) dX8_doer_143 ?_
                refine aw_goto hX (tgt := 42) dX8_doer_146 (by decide) ?_
                exact ih (g + 1) (by omega) _ _ _ _ rfl rfl rfl (by simp only [neL, ← hp]; simp [c_48, c_87, c_100, c_124]) hk
              · skip
                refine aw_iload_10 hX dX8_doer_127 ?_
                refine aw_iload_6 hX dX8_doer_129 ?_
                first | with_reducible refine aw_icmpgeN hX (tgt := 139) dX8_doer_131 (by decide) (by omega) (by omega) (fun c_131 => ?_) (fun c_131 => ?_) | refine aw_jge hX (tgt := 139) dX8_doer_131 (by decide) (fun c_131 => ?_) (fun c_131 => ?_)
                · skip
                  refine aw_iload_6 hX dX8_doer_139 ?_
                  refine aw_istore_6 hX rfl (by decide) dX8_doer_141 ?_
                  first | with_reducible refine aw_iinc_7N hX rfl (by decide) dX8_doer_143 ?_ | refine aw_iinc_7 hX rfl (by decide) dX8_doer_143 ?_
                  refine aw_goto hX (tgt := 42) dX8_doer_146 (by decide) ?_
                  exact ih (g + 1) (by omega) _ _ _ _ rfl rfl rfl (by simp only [neL, ← hp]; simp [c_48, c_87, c_100, c_124, c_131]) hk
                · skip
                  refine aw_iload_10 hX dX8_doer_134 ?_
                  refine aw_goto hX (tgt := 141) dX8_doer_136 (by decide) ?_
                  refine aw_istore_6 hX rfl (by decide) dX8_doer_141 ?_
                  first | with_reducible refine aw_iinc_7N hX rfl (by decide) dX8_doer_143 ?_ | refine aw_iinc_7 hX rfl (by decide) dX8_doer_143 ?_
                  refine aw_goto hX (tgt := 42) dX8_doer_146 (by decide) ?_
                  exact ih (g + 1) (by omega) _ _ _ _ rfl rfl rfl (by simp only [neL, ← hp]; simp [c_48, c_87, c_100, c_124, c_131]) hk
          · replace c_87 : ¬ 0 ≤ ofM S g 5 - ofM S i 5 := c_87
            refine aw_iload_8 hX dX8_doer_90 ?_
            refine aw_ineg hX dX8_doer_92 ?_
            refine aw_goto hX (tgt := 98) dX8_doer_93 (by decide) ?_
            refine aw_iload_9 hX dX8_doer_98 ?_
            refine aw_ifge hX (tgt := 109) dX8_doer_100 (by decide) (fun c_100 => ?_) (fun c_100 => ?_)
            · skip
              refine aw_iload_9 hX dX8_doer_109 ?_
              refine aw_iadd hX dX8_doer_111 ?_
              refine aw_ti (y := faM S i g) (by rw [faM, ab2, ab2]; simp only [c_48, c_87, c_100, if_true, if_false, reduceIte]) ?_
              refine aw_istore_10 hX rfl (by decide) dX8_doer_112 ?_
              refine aw_aload_0 hX dX8_doer_114 ?_
              refine aw_iload_7 hX dX8_doer_115 ?_
              refine aw_bipush hX (v := nI 7) (by decide) dX8_doer_117 ?_
              refine cv_X8_of hX ml_X8_99 dX8_doer_119 (m_X8_of _ G S g 7 (by omega) (by decide)) (Nat.le_of_ble_eq_true rfl) ?_
              refine aw_iload_5 hX dX8_doer_122 ?_
              first | with_reducible refine aw_icmpneN hX (tgt := 139) dX8_doer_124 (by decide) (by omega) (by omega) (fun c_124 => ?_) (fun c_124 => ?_) | refine aw_icmpne hX (tgt := 139) dX8_doer_124 (by decide) (fun c_124 => ?_) (fun c_124 => ?_)
              · skip
                refine aw_iload_6 hX dX8_doer_139 ?_
                refine aw_istore_6 hX rfl (by decide) dX8_doer_141 ?_
                first | with_reducible refine aw_iinc_7N hX rfl (by decide) dX8_doer_143 ?_ | refine aw_iinc_7 hX rfl (by decide) dX8_doer_143 ?_
                refine aw_goto hX (tgt := 42) dX8_doer_146 (by decide) ?_
                exact ih (g + 1) (by omega) _ _ _ _ rfl rfl rfl (by simp only [neL, ← hp]; simp [c_48, c_87, c_100, c_124]) hk
              · skip
                refine aw_iload_10 hX dX8_doer_127 ?_
                refine aw_iload_6 hX dX8_doer_129 ?_
                first | with_reducible refine aw_icmpgeN hX (tgt := 139) dX8_doer_131 (by decide) (by omega) (by omega) (fun c_131 => ?_) (fun c_131 => ?_) | refine aw_jge hX (tgt := 139) dX8_doer_131 (by decide) (fun c_131 => ?_) (fun c_131 => ?_)
                · skip
                  refine aw_iload_6 hX dX8_doer_139 ?_
                  refine aw_istore_6 hX rfl (by decide) dX8_doer_141 ?_
                  first | with_reducible refine aw_iinc_7N hX rfl (by decide) dX8_doer_143 ?_ | refine aw_iinc_7 hX rfl (by decide) dX8_doer_143 ?_
                  refine aw_goto hX (tgt := 42) dX8_doer_146 (by decide) ?_
                  exact ih (g + 1) (by omega) _ _ _ _ rfl rfl rfl (by simp only [neL, ← hp]; simp [c_48, c_87, c_100, c_124, c_131]) hk
                · skip
                  refine aw_iload_10 hX dX8_doer_134 ?_
                  refine aw_goto hX (tgt := 141) dX8_doer_136 (by decide) ?_
                  refine aw_istore_6 hX rfl (by decide) dX8_doer_141 ?_
                  first | with_reducible refine aw_iinc_7N hX rfl (by decide) dX8_doer_143 ?_ | refine aw_iinc_7 hX rfl (by decide) dX8_doer_143 ?_
                  refine aw_goto hX (tgt := 42) dX8_doer_146 (by decide) ?_
                  exact ih (g + 1) (by omega) _ _ _ _ rfl rfl rfl (by simp only [neL, ← hp]; simp [c_48, c_87, c_100, c_124, c_131]) hk
            · skip
              refine aw_iload_9 hX dX8_doer_103 ?_
              refine aw_ineg hX dX8_doer_105 ?_
              refine aw_goto hX (tgt := 111) dX8_doer_106 (by decide) ?_
              refine aw_iadd hX dX8_doer_111 ?_
              refine aw_ti (y := faM S i g) (by rw [faM, ab2, ab2]; simp only [c_48, c_87, c_100, if_true, if_false, reduceIte]) ?_
              refine aw_istore_10 hX rfl (by decide) dX8_doer_112 ?_
              refine aw_aload_0 hX dX8_doer_114 ?_
              refine aw_iload_7 hX dX8_doer_115 ?_
              refine aw_bipush hX (v := nI 7) (by decide) dX8_doer_117 ?_
              refine cv_X8_of hX ml_X8_99 dX8_doer_119 (m_X8_of _ G S g 7 (by omega) (by decide)) (Nat.le_of_ble_eq_true rfl) ?_
              refine aw_iload_5 hX dX8_doer_122 ?_
              first | with_reducible refine aw_icmpneN hX (tgt := 139) dX8_doer_124 (by decide) (by omega) (by omega) (fun c_124 => ?_) (fun c_124 => ?_) | refine aw_icmpne hX (tgt := 139) dX8_doer_124 (by decide) (fun c_124 => ?_) (fun c_124 => ?_)
              · skip
                refine aw_iload_6 hX dX8_doer_139 ?_
                refine aw_istore_6 hX rfl (by decide) dX8_doer_141 ?_
                first | with_reducible refine aw_iinc_7N hX rfl (by decide) dX8_doer_143 ?_ | refine aw_iinc_7 hX rfl (by decide) dX8_doer_143 ?_
                refine aw_goto hX (tgt := 42) dX8_doer_146 (by decide) ?_
                exact ih (g + 1) (by omega) _ _ _ _ rfl rfl rfl (by simp only [neL, ← hp]; simp [c_48, c_87, c_100, c_124]) hk
              · skip
                refine aw_iload_10 hX dX8_doer_127 ?_
                refine aw_iload_6 hX dX8_doer_129 ?_
                first | with_reducible refine aw_icmpgeN hX (tgt := 139) dX8_doer_131 (by decide) (by omega) (by omega) (fun c_131 => ?_) (fun c_131 => ?_) | refine aw_jge hX (tgt := 139) dX8_doer_131 (by decide) (fun c_131 => ?_) (fun c_131 => ?_)
                · skip
                  refine aw_iload_6 hX dX8_doer_139 ?_
                  refine aw_istore_6 hX rfl (by decide) dX8_doer_141 ?_
                  first | with_reducible refine aw_iinc_7N hX rfl (by decide) dX8_doer_143 ?_ | refine aw_iinc_7 hX rfl (by decide) dX8_doer_143 ?_
                  refine aw_goto hX (tgt := 42) dX8_doer_146 (by decide) ?_
                  exact ih (g + 1) (by omega) _ _ _ _ rfl rfl rfl (by simp only [neL, ← hp]; simp [c_48, c_87, c_100, c_124, c_131]) hk
                · skip
                  refine aw_iload_10 hX dX8_doer_134 ?_
                  refine aw_goto hX (tgt := 141) dX8_doer_136 (by decide) ?_
                  refine aw_istore_6 hX rfl (by decide) dX8_doer_141 ?_
                  first | with_reducible refine aw_iinc_7N hX rfl (by decide) dX8_doer_143 ?_ | refine aw_iinc_7 hX rfl (by decide) dX8_doer_143 ?_
                  refine aw_goto hX (tgt := 42) dX8_doer_146 (by decide) ?_
                  exact ih (g + 1) (by omega) _ _ _ _ rfl rfl rfl (by simp only [neL, ← hp]; simp [c_48, c_87, c_100, c_124, c_131]) hk
    have outer : ∀ n : Nat, n ≤ 4 → ∀ (be le : Int32) (v6 v7 v8 v9 v10 : Value), v6.category = 1 → v7.category = 1 → v8.category = 1 → v9.category = 1 → v10.category = 1 → (be, le) = dmL (neM S i) (S.2.1 56) (4 - n) → AW X G 30 [.ref (gad G 8), .int (nI i), .int (ofM S i 7), .int be, .int le, .int (nI n - nI 1), v6, v7, v8, v9, v10] [] S := by
      intro n
      induction n with
      | zero =>
        intro hn be le v6 v7 v8 v9 v10 h6 h7 h8 h9 h10 hp
        refine aw_iload_5 hX dX8_doer_30 ?_
        refine aw_iflt hX (tgt := 179) dX8_doer_32 (by decide) (fun c_32 => ?_) (fun c_32 => ?_)
        · skip
          refine aw_iload_3 hX dX8_doer_179 ?_
          refine aw_finI (hR _ _ dX8_doer_180) ?_ ?_
          · rw [doM, if_neg hil, ← hp]
          · rfl
        · exact absurd (by decide) c_32
      | succ n ih =>
        intro hn be le v6 v7 v8 v9 v10 h6 h7 h8 h9 h10 hp
        rw [np1]
        refine aw_iload_5 hX dX8_doer_30 ?_
        refine aw_iflt hX (tgt := 179) dX8_doer_32 (by decide) (fun c_32 => ?_) (fun c_32 => ?_)
        · exact absurd c_32 (nI_pos (by omega))
        · skip
          refine aw_bipush hX (v := nI 100) (by decide) dX8_doer_35 ?_
          refine aw_istore_6 hX rfl (by decide) dX8_doer_37 ?_
          refine aw_iconst hX (v := nI 0) (by decide) dX8_doer_39 ?_
          refine aw_istore_7 hX rfl (by decide) dX8_doer_40 ?_
          refine inner n be le (by omega) (S.1 18) 0 (by omega) _ _ _ _ h8 h9 h10 rfl (fun a b c ha hb hc => ?_)
          refine aw_aload_0 hX dX8_doer_149 ?_
          refine ag_X8_isIll hX fl_X8_44 dX8_doer_150 ?_
          refine aw_iload_5 hX dX8_doer_153 ?_
          refine aw_zald hX dX8_doer_155 rfl (by decide) (by omega) ?_
          first | with_reducible refine aw_ifneB hX (tgt := 173) dX8_doer_156 (by decide) (fun c_156 => ?_) (fun c_156 => ?_) | refine aw_ifne hX (tgt := 173) dX8_doer_156 (by decide) (fun c_156 => ?_) (fun c_156 => ?_)
          · skip
            refine aw_iinc_5 hX rfl (by decide) dX8_doer_173 ?_
            refine aw_goto hX (tgt := 30) dX8_doer_176 (by decide) ?_
            rw [nm1]; exact ih (by omega) _ _ _ _ _ _ _ rfl rfl ha hb hc (by rw [show 4 - n = (4 - (n + 1)) + 1 by omega]; simp only [dmL, ← hp, show 3 - (4 - (n + 1)) = n by omega]; simp [neM, c_156])
          · skip
            refine aw_iload_6 hX dX8_doer_159 ?_
            refine aw_iload_4 hX dX8_doer_161 ?_
            first | with_reducible refine aw_icmpgtN hX (tgt := 173) dX8_doer_163 (by decide) (by omega) (by omega) (fun c_163 => ?_) (fun c_163 => ?_) | refine aw_jgt hX (tgt := 173) dX8_doer_163 (by decide) (fun c_163 => ?_) (fun c_163 => ?_)
            · skip
              refine aw_iinc_5 hX rfl (by decide) dX8_doer_173 ?_
              refine aw_goto hX (tgt := 30) dX8_doer_176 (by decide) ?_
              rw [nm1]; exact ih (by omega) _ _ _ _ _ _ _ rfl rfl ha hb hc (by rw [show 4 - n = (4 - (n + 1)) + 1 by omega]; simp only [dmL, ← hp, show 3 - (4 - (n + 1)) = n by omega]; simp [neM, c_156, c_163])
            · skip
              refine aw_iload_6 hX dX8_doer_166 ?_
              refine aw_istore_4 hX rfl (by decide) dX8_doer_168 ?_
              refine aw_iload_5 hX dX8_doer_170 ?_
              refine aw_istore_3 hX rfl (by decide) dX8_doer_172 ?_
              refine aw_iinc_5 hX rfl (by decide) dX8_doer_173 ?_
              refine aw_goto hX (tgt := 30) dX8_doer_176 (by decide) ?_
              rw [nm1]; exact ih (by omega) _ _ _ _ _ _ _ rfl rfl ha hb hc (by rw [show 4 - n = (4 - (n + 1)) + 1 by omega]; simp only [dmL, ← hp, show 3 - (4 - (n + 1)) = n by omega]; simp [neM, c_156, c_163])
    refine aw_bipush hX (v := (-9)) (by decide) dX8_doer_19 ?_
    refine aw_istore_3 hX rfl (by decide) dX8_doer_21 ?_
    refine aw_sipush hX (v := nI 1000) (by decide) dX8_doer_22 ?_
    refine aw_istore_4 hX rfl (by decide) dX8_doer_25 ?_
    refine aw_iconst hX (v := nI 3) (by decide) dX8_doer_27 ?_
    refine aw_istore_5 hX rfl (by decide) dX8_doer_28 ?_
    rw [show nI 3 = nI 4 - nI 1 by decide]; exact outer 4 (by omega) _ _ _ _ _ _ _ rfl rfl rfl rfl rfl rfl
  · replace c_14 : S.2.1 56 (tn (ofM S i 7)) = 0 := c_14
    refine aw_iload_2 hX dX8_doer_17 ?_
    refine aw_finI (hR _ _ dX8_doer_18) ?_ ?_
    · rw [doM, if_pos c_14]
    · rfl
set_option maxHeartbeats 4000000 in
set_option maxRecDepth 100000 in
theorem m_X8_type_bad (d : Nat) (G : GT) (S : St) (h13 : S.1 13 = 0) (v : Int64) (n : Int32) (h : inR n (nI 1) (nI 8) = false) : rX8_type G (d + 2) [.ref (gad G 8), .long v, .int n] S (some (.int (-1))) S := by
  refine runs_I (d := (d + 1)) (by decide) (Nat.le_of_ble_eq_true rfl) (fun X (hX : XC X G (d + 1) RX8 cX8_type 5) hR => ?_)
  show AW X G 0 [.ref (gad G 8), .long v, .null, .int n, .null] [] S
  refine aw_aload_0 hX dX8_type_0 ?_
  refine aw_iconst hX (v := nI 0) (by decide) dX8_type_1 ?_
  refine ap_X8_thrown hX fl_X8_57 dX8_type_2 ?_
  refine aw_S (sN_self h13) ?_
  refine aw_iload_3 hX dX8_type_5 ?_
  refine aw_iconst hX (v := nI 1) (by decide) dX8_type_6 ?_
  refine aw_bipush hX (v := nI 8) (by decide) dX8_type_7 ?_
  refine cs_X8_in hX ml_X8_60 dX8_type_9 (m_X8_in_b _ G S _ _ _ false h) (Nat.le_of_ble_eq_true rfl) ?_
  first | with_reducible refine aw_ifneB hX (tgt := 17) dX8_type_12 (by decide) (fun c_12 => ?_) (fun c_12 => ?_) | refine aw_ifne hX (tgt := 17) dX8_type_12 (by decide) (fun c_12 => ?_) (fun c_12 => ?_)
  · cases c_12
  · skip
    refine aw_iconst hX (v := (-1)) (by decide) dX8_type_15 ?_
    refine aw_finI (hR _ _ dX8_type_16) ?_ ?_
    · rfl
    · rfl
set_option maxHeartbeats 4000000 in
set_option maxRecDepth 100000 in
theorem m_X8_type_full (d : Nat) (G : GT) (S : St) (h13 : S.1 13 = 0) (v : Int64) (k : Nat) (hk : 1 ≤ k) (hk8 : k ≤ 8) (h2 : S.1 15 ≤ 60) (h : 60 < S.1 15 + k) : rX8_type G (d + 2) [.ref (gad G 8), .long v, .int (nI k)] S (some (.int (-3))) S := by
  refine runs_I (d := (d + 1)) (by decide) (Nat.le_of_ble_eq_true rfl) (fun X (hX : XC X G (d + 1) RX8 cX8_type 5) hR => ?_)
  show AW X G 0 [.ref (gad G 8), .long v, .null, .int (nI k), .null] [] S
  refine aw_aload_0 hX dX8_type_0 ?_
  refine aw_iconst hX (v := nI 0) (by decide) dX8_type_1 ?_
  refine ap_X8_thrown hX fl_X8_57 dX8_type_2 ?_
  refine aw_S (sN_self h13) ?_
  refine aw_iload_3 hX dX8_type_5 ?_
  refine aw_iconst hX (v := nI 1) (by decide) dX8_type_6 ?_
  refine aw_bipush hX (v := nI 8) (by decide) dX8_type_7 ?_
  refine cs_X8_in hX ml_X8_60 dX8_type_9 (m_X8_in_b _ G S _ _ _ true (by rw [inR_nI (by omega) (by omega) (by omega)]; simp; omega)) (Nat.le_of_ble_eq_true rfl) ?_
  first | with_reducible refine aw_ifneB hX (tgt := 17) dX8_type_12 (by decide) (fun c_12 => ?_) (fun c_12 => ?_) | refine aw_ifne hX (tgt := 17) dX8_type_12 (by decide) (fun c_12 => ?_) (fun c_12 => ?_)
  · skip
    refine aw_aload_0 hX dX8_type_17 ?_
    refine ag_X8_drafted hX fl_X8_64 dX8_type_18 ?_
    refine aw_iload_3 hX dX8_type_21 ?_
    first | with_reducible refine aw_iaddN hX dX8_type_22 ?_ | refine aw_iadd hX dX8_type_22 ?_
    refine aw_bipush hX (v := nI 60) (by decide) dX8_type_23 ?_
    first | with_reducible refine aw_icmpleN hX (tgt := 31) dX8_type_25 (by decide) (by omega) (by omega) (fun c_25 => ?_) (fun c_25 => ?_) | refine aw_jle hX (tgt := 31) dX8_type_25 (by decide) (fun c_25 => ?_) (fun c_25 => ?_)
    · exact absurd c_25 (by omega)
    · skip
      refine aw_bipush hX (v := (-3)) (by decide) dX8_type_28 ?_
      refine aw_finI (hR _ _ dX8_type_30) ?_ ?_
      · rfl
      · rfl
  · cases c_12
set_option maxHeartbeats 4000000 in
set_option maxRecDepth 100000 in
theorem m_X8_type_ok (d : Nat) (G : GT) (S : St) (h13 : S.1 13 = 0) (v : Int64) (k : Nat) (hk : 1 ≤ k) (hk8 : k ≤ 8) (h : S.1 15 + k ≤ 60) : rX8_type G (d + 2) [.ref (gad G 8), .long v, .int (nI k)] S (some (.int (nI (S.1 15 + k)))) (apM v k S) := by
  refine runs_I (d := (d + 1)) (by decide) (Nat.le_of_ble_eq_true rfl) (fun X (hX : XC X G (d + 1) RX8 cX8_type 5) hR => ?_)
  show AW X G 0 [.ref (gad G 8), .long v, .null, .int (nI k), .null] [] S
  have loop : ∀ (n : Nat) (S1 : St), S1.1 15 + n ≤ 60 → S1.1 15 + n = S.1 15 + k → apM v n S1 = apM v k S → AW X G 36 [.ref (gad G 8), .long v, .null, .int (nI k), .int (nI n - nI 1)] [] S1 := by
    intro n
    induction n with
    | zero =>
      intro S1 hn hq hp
      refine aw_iload_4 hX dX8_type_36 ?_
      refine aw_iflt hX (tgt := 78) dX8_type_38 (by decide) (fun c_38 => ?_) (fun c_38 => ?_)
      · skip
        refine aw_aload_0 hX dX8_type_78 ?_
        refine ag_X8_drafted hX fl_X8_64 dX8_type_79 ?_
        try simp only [sN_N, sN_A, sN_L, sN_R, sA_N, sA_A, sA_L, sA_R, sL_N, sL_A, sL_L, sL_R, sR_N, sR_A, sR_L, sR_R, reduceIte]
        refine aw_finI (hR _ _ dX8_type_82) ?_ ?_
        · exact congrArg nI (by omega)
        · exact hp
      · exact absurd (by decide) c_38
    | succ n ih =>
      intro S1 hn hq hp
      rw [np1]
      refine aw_iload_4 hX dX8_type_36 ?_
      refine aw_iflt hX (tgt := 78) dX8_type_38 (by decide) (fun c_38 => ?_) (fun c_38 => ?_)
      · exact absurd c_38 (nI_pos (by omega))
      · skip
        refine aw_aload_0 hX dX8_type_41 ?_
        refine ag_X8_draft hX fl_X8_7 dX8_type_42 ?_
        try simp only [sN_N, sN_A, sN_L, sN_R, sA_N, sA_A, sA_L, sA_R, sL_N, sL_A, sL_L, sL_R, sR_N, sR_A, sR_L, sR_R, reduceIte]
        refine aw_aload_0 hX dX8_type_45 ?_
        refine ag_X8_drafted hX fl_X8_64 dX8_type_46 ?_
        try simp only [sN_N, sN_A, sN_L, sN_R, sA_N, sA_A, sA_L, sA_R, sL_N, sL_A, sL_L, sL_R, sR_N, sR_A, sR_L, sR_R, reduceIte]
        refine aw_lload_1 hX dX8_type_49 ?_
        refine aw_bipush hX (v := nI 8) (by decide) dX8_type_50 ?_
        refine aw_iload_4 hX dX8_type_52 ?_
        first | with_reducible refine aw_imulN hX dX8_type_54 ?_ | refine aw_imul hX dX8_type_54 ?_
        refine aw_lshr hX dX8_type_55 ?_
        refine aw_ldc2 hX kc_X8_67 dX8_type_56 ?_
        refine aw_land hX dX8_type_59 ?_
        refine aw_l2i hX dX8_type_60 ?_
        refine aw_iast hX dX8_type_61 rfl (fun _ => rfl) (by decide) (by omega) ?_
        refine aw_aload_0 hX dX8_type_62 ?_
        refine aw_dup hX rfl dX8_type_63 ?_
        refine ag_X8_drafted hX fl_X8_64 dX8_type_64 ?_
        try simp only [sN_N, sN_A, sN_L, sN_R, sA_N, sA_A, sA_L, sA_R, sL_N, sL_A, sL_L, sL_R, sR_N, sR_A, sR_L, sR_R, reduceIte]
        refine aw_iconst hX (v := nI 1) (by decide) dX8_type_67 ?_
        first | with_reducible refine aw_iaddN hX dX8_type_68 ?_ | refine aw_iadd hX dX8_type_68 ?_
        refine ap_X8_drafted hX fl_X8_64 dX8_type_69 ?_
        refine aw_iinc_4 hX rfl (by decide) dX8_type_72 ?_
        refine aw_goto hX (tgt := 36) dX8_type_75 (by decide) ?_
        rw [nm1]; exact ih _ (by simp only [sN_N, sA_N, reduceIte]; omega) (by simp only [sN_N, sA_N, reduceIte]; omega) hp
  refine aw_aload_0 hX dX8_type_0 ?_
  refine aw_iconst hX (v := nI 0) (by decide) dX8_type_1 ?_
  refine ap_X8_thrown hX fl_X8_57 dX8_type_2 ?_
  refine aw_S (sN_self h13) ?_
  refine aw_iload_3 hX dX8_type_5 ?_
  refine aw_iconst hX (v := nI 1) (by decide) dX8_type_6 ?_
  refine aw_bipush hX (v := nI 8) (by decide) dX8_type_7 ?_
  refine cs_X8_in hX ml_X8_60 dX8_type_9 (m_X8_in_b _ G S _ _ _ true (by rw [inR_nI (by omega) (by omega) (by omega)]; simp; omega)) (Nat.le_of_ble_eq_true rfl) ?_
  first | with_reducible refine aw_ifneB hX (tgt := 17) dX8_type_12 (by decide) (fun c_12 => ?_) (fun c_12 => ?_) | refine aw_ifne hX (tgt := 17) dX8_type_12 (by decide) (fun c_12 => ?_) (fun c_12 => ?_)
  · skip
    refine aw_aload_0 hX dX8_type_17 ?_
    refine ag_X8_drafted hX fl_X8_64 dX8_type_18 ?_
    refine aw_iload_3 hX dX8_type_21 ?_
    first | with_reducible refine aw_iaddN hX dX8_type_22 ?_ | refine aw_iadd hX dX8_type_22 ?_
    refine aw_bipush hX (v := nI 60) (by decide) dX8_type_23 ?_
    first | with_reducible refine aw_icmpleN hX (tgt := 31) dX8_type_25 (by decide) (by omega) (by omega) (fun c_25 => ?_) (fun c_25 => ?_) | refine aw_jle hX (tgt := 31) dX8_type_25 (by decide) (fun c_25 => ?_) (fun c_25 => ?_)
    · skip
      refine aw_iload_3 hX dX8_type_31 ?_
      refine aw_iconst hX (v := nI 1) (by decide) dX8_type_32 ?_
      refine aw_isub hX dX8_type_33 ?_
      refine aw_istore_4 hX rfl (by decide) dX8_type_34 ?_
      exact loop k S (by omega) rfl rfl
    · exact absurd c_25 (by omega)
  · cases c_12
set_option maxHeartbeats 4000000 in
set_option maxRecDepth 100000 in
theorem m_X8_clear (d : Nat) (G : GT) (S : St) (h13 : S.1 13 = 0)  : rX8_clear G (d + 1) [.ref (gad G 8)] S (some (.int (nI (S.1 15)))) (sN S 15 0) := by
  refine runs_I (d := d) (by decide) (Nat.le_of_ble_eq_true rfl) (fun X (hX : XC X G d RX8 cX8_clear 2) hR => ?_)
  show AW X G 0 [.ref (gad G 8), .null] [] S
  refine aw_aload_0 hX dX8_clear_0 ?_
  refine aw_iconst hX (v := nI 0) (by decide) dX8_clear_1 ?_
  refine ap_X8_thrown hX fl_X8_57 dX8_clear_2 ?_
  refine aw_S (sN_self h13) ?_
  refine aw_aload_0 hX dX8_clear_5 ?_
  refine ag_X8_drafted hX fl_X8_64 dX8_clear_6 ?_
  refine aw_istore_1 hX rfl (by decide) dX8_clear_9 ?_
  refine aw_aload_0 hX dX8_clear_10 ?_
  refine aw_iconst hX (v := nI 0) (by decide) dX8_clear_11 ?_
  refine ap_X8_drafted hX fl_X8_64 dX8_clear_12 ?_
  refine aw_iload_1 hX dX8_clear_15 ?_
  refine aw_finI (hR _ _ dX8_clear_16) ?_ ?_
  · rfl
  · rfl
set_option maxHeartbeats 4000000 in
set_option maxRecDepth 100000 in
theorem m_X8_spanBy (d : Nat) (G : GT) (S : St) (fuel day : Int32) (hb : BmOK S) : rX8_spanBy G (d + 1) [.ref (gad G 8), .int fuel, .int day] S (some (.int (spM S fuel day))) S := by
  refine runs_I (d := d) (by decide) (Nat.le_of_ble_eq_true rfl) (fun X (hX : XC X G d RX8 cX8_spanBy 6) hR => ?_)
  show AW X G 0 [.ref (gad G 8), .int fuel, .int day, .null, .null, .null] [] S
  have h6 := hb.1
  have l1 : ∀ n i : Nat, i + n = S.1 16 → (∀ v5 : Value, AW X G 39 [.ref (gad G 8), .int fuel, .int day, .int (oN (infL (S.2.1 47) day (S.1 16))), .int (nI (S.1 16)), .null] [] S) → AW X G 6 [.ref (gad G 8), .int fuel, .int day, .int (oN (infL (S.2.1 47) day i)), .int (nI i), .null] [] S := by
    intro n
    induction n with
    | zero =>
      intro i hi hk
      refine aw_iload_4 hX dX8_spanBy_6 ?_
      refine aw_aload_0 hX dX8_spanBy_8 ?_
      refine ag_X8_laws hX fl_X8_69 dX8_spanBy_9 ?_
      first | with_reducible refine aw_icmpgeN hX (tgt := 39) dX8_spanBy_12 (by decide) (by omega) (by omega) (fun c_12 => ?_) (fun c_12 => ?_) | refine aw_jge hX (tgt := 39) dX8_spanBy_12 (by decide) (fun c_12 => ?_) (fun c_12 => ?_)
      · skip
        rw [show S.1 16 = i by omega] at hk; exact hk .null
      · exact absurd c_12 (by omega)
    | succ n ih =>
      intro i hi hk
      refine aw_iload_4 hX dX8_spanBy_6 ?_
      refine aw_aload_0 hX dX8_spanBy_8 ?_
      refine ag_X8_laws hX fl_X8_69 dX8_spanBy_9 ?_
      first | with_reducible refine aw_icmpgeN hX (tgt := 39) dX8_spanBy_12 (by decide) (by omega) (by omega) (fun c_12 => ?_) (fun c_12 => ?_) | refine aw_jge hX (tgt := 39) dX8_spanBy_12 (by decide) (fun c_12 => ?_) (fun c_12 => ?_)
      · exact absurd c_12 (by omega)
      · skip
        refine aw_aload_0 hX dX8_spanBy_15 ?_
        refine ag_X8_lawOn hX fl_X8_13 dX8_spanBy_16 ?_
        refine aw_iload_4 hX dX8_spanBy_19 ?_
        refine aw_iald hX dX8_spanBy_21 rfl (by decide) (by omega) ?_
        refine aw_iload_2 hX dX8_spanBy_22 ?_
        first | with_reducible refine aw_icmpgtN hX (tgt := 31) dX8_spanBy_23 (by decide) (by omega) (by omega) (fun c_23 => ?_) (fun c_23 => ?_) | refine aw_jgt hX (tgt := 31) dX8_spanBy_23 (by decide) (fun c_23 => ?_) (fun c_23 => ?_)
        · skip
          refine aw_iload_3 hX dX8_spanBy_31 ?_
          refine aw_istore_3 hX rfl (by decide) dX8_spanBy_32 ?_
          first | with_reducible refine aw_iinc_4N hX rfl (by decide) dX8_spanBy_33 ?_ | refine aw_iinc_4 hX rfl (by decide) dX8_spanBy_33 ?_
          refine aw_goto hX (tgt := 6) dX8_spanBy_36 (by decide) ?_
          have := ih (i + 1) (by omega) hk
          simp only [infL, c_12, c_23, if_true, if_false, not_false_eq_true, not_true_eq_false, reduceIte] at this
          exact this
        · skip
          refine aw_iload_4 hX dX8_spanBy_26 ?_
          refine aw_goto hX (tgt := 32) dX8_spanBy_28 (by decide) ?_
          refine aw_istore_3 hX rfl (by decide) dX8_spanBy_32 ?_
          first | with_reducible refine aw_iinc_4N hX rfl (by decide) dX8_spanBy_33 ?_ | refine aw_iinc_4 hX rfl (by decide) dX8_spanBy_33 ?_
          refine aw_goto hX (tgt := 6) dX8_spanBy_36 (by decide) ?_
          have := ih (i + 1) (by omega) hk
          simp only [infL, c_12, c_23, if_true, if_false, not_false_eq_true, not_true_eq_false, reduceIte] at this
          exact this
  refine aw_bipush hX (v := (-9)) (by decide) dX8_spanBy_0 ?_
  refine aw_istore_3 hX rfl (by decide) dX8_spanBy_2 ?_
  refine aw_iconst hX (v := nI 0) (by decide) dX8_spanBy_3 ?_
  refine aw_istore_4 hX rfl (by decide) dX8_spanBy_4 ?_
  refine l1 (S.1 16) 0 (by omega) (fun v5 => ?_)
  cases hinf : infL (S.2.1 47) day (S.1 16) with
  | none =>
    simp only [oN]
    refine aw_bipush hX (v := nI 100) (by decide) dX8_spanBy_39 ?_
    refine aw_istore_4 hX rfl (by decide) dX8_spanBy_41 ?_
    refine aw_iload_3 hX dX8_spanBy_43 ?_
    refine aw_bipush hX (v := (-9)) (by decide) dX8_spanBy_44 ?_
    first | with_reducible refine aw_icmpneN hX (tgt := 53) dX8_spanBy_46 (by decide) (by omega) (by omega) (fun c_46 => ?_) (fun c_46 => ?_) | refine aw_icmpne hX (tgt := 53) dX8_spanBy_46 (by decide) (fun c_46 => ?_) (fun c_46 => ?_)
    · exact absurd rfl c_46
    · skip
      refine aw_iconst hX (v := nI 0) (by decide) dX8_spanBy_49 ?_
      refine aw_goto hX (tgt := 59) dX8_spanBy_50 (by decide) ?_
      refine aw_istore_5 hX rfl (by decide) dX8_spanBy_59 ?_
      refine aw_iload_3 hX dX8_spanBy_61 ?_
      refine aw_bipush hX (v := (-9)) (by decide) dX8_spanBy_62 ?_
      first | with_reducible refine aw_icmpeqN hX (tgt := 122) dX8_spanBy_64 (by decide) (by omega) (by omega) (fun c_64 => ?_) (fun c_64 => ?_) | refine aw_icmpeq hX (tgt := 122) dX8_spanBy_64 (by decide) (fun c_64 => ?_) (fun c_64 => ?_)
      · skip
        refine aw_iload_4 hX dX8_spanBy_122 ?_
        refine aw_finI (hR _ _ dX8_spanBy_124) ?_ ?_
        · rw [spM, spO_none hinf]
        · rfl
      · exact absurd rfl c_64
  | some k =>
    have hk := infL_lt hinf
    have hlo := hb.2.1 k (by omega)
    have hhi := hb.2.1 (k + 1) (by omega)
    have hlh := hb.2.2 k hk
    have h6 := hb.1
    simp only [oN]
    have l2 : ∀ n c : Nat, c + n = tn (S.2.1 48 (k + 1)) - tn (S.2.1 48 k) → ∀ sp : Int32, sp = spL (S.2.1 49) (S.2.1 50) (S.2.1 51) fuel day (tn (S.2.1 48 k)) c → AW X G 61 [.ref (gad G 8), .int fuel, .int day, .int (nI k), .int sp, .int (nI (tn (S.2.1 48 k) + c))] [] S := by
      intro n
      induction n with
      | zero =>
        intro c hc sp hp
        refine aw_iload_3 hX dX8_spanBy_61 ?_
        refine aw_bipush hX (v := (-9)) (by decide) dX8_spanBy_62 ?_
        first | with_reducible refine aw_icmpeqN hX (tgt := 122) dX8_spanBy_64 (by decide) (by omega) (by omega) (fun c_64 => ?_) (fun c_64 => ?_) | refine aw_icmpeq hX (tgt := 122) dX8_spanBy_64 (by decide) (fun c_64 => ?_) (fun c_64 => ?_)
        · exact absurd c_64 (ne9 (by omega))
        · skip
          refine aw_iload_5 hX dX8_spanBy_67 ?_
          refine aw_aload_0 hX dX8_spanBy_69 ?_
          refine ag_X8_begins hX fl_X8_16 dX8_spanBy_70 ?_
          refine aw_iload_3 hX dX8_spanBy_73 ?_
          refine aw_iconst hX (v := nI 1) (by decide) dX8_spanBy_74 ?_
          first | with_reducible refine aw_iaddN hX dX8_spanBy_75 ?_ | refine aw_iadd hX dX8_spanBy_75 ?_
          refine aw_iald hX dX8_spanBy_76 rfl (by decide) (by omega) ?_
          refine aw_ti hhi.1 ?_
          first | with_reducible refine aw_icmpgeN hX (tgt := 122) dX8_spanBy_77 (by decide) (by omega) (by omega) (fun c_77 => ?_) (fun c_77 => ?_) | refine aw_jge hX (tgt := 122) dX8_spanBy_77 (by decide) (fun c_77 => ?_) (fun c_77 => ?_)
          · skip
            refine aw_iload_4 hX dX8_spanBy_122 ?_
            refine aw_finI (hR _ _ dX8_spanBy_124) ?_ ?_
            · rw [spM, spO_some hinf, hp, show c = tn (S.2.1 48 (k + 1)) - tn (S.2.1 48 k) by omega]
            · rfl
          · exact absurd c_77 (by omega)
      | succ n ih =>
        intro c hc sp hp
        refine aw_iload_3 hX dX8_spanBy_61 ?_
        refine aw_bipush hX (v := (-9)) (by decide) dX8_spanBy_62 ?_
        first | with_reducible refine aw_icmpeqN hX (tgt := 122) dX8_spanBy_64 (by decide) (by omega) (by omega) (fun c_64 => ?_) (fun c_64 => ?_) | refine aw_icmpeq hX (tgt := 122) dX8_spanBy_64 (by decide) (fun c_64 => ?_) (fun c_64 => ?_)
        · exact absurd c_64 (ne9 (by omega))
        · skip
          refine aw_iload_5 hX dX8_spanBy_67 ?_
          refine aw_aload_0 hX dX8_spanBy_69 ?_
          refine ag_X8_begins hX fl_X8_16 dX8_spanBy_70 ?_
          refine aw_iload_3 hX dX8_spanBy_73 ?_
          refine aw_iconst hX (v := nI 1) (by decide) dX8_spanBy_74 ?_
          first | with_reducible refine aw_iaddN hX dX8_spanBy_75 ?_ | refine aw_iadd hX dX8_spanBy_75 ?_
          refine aw_iald hX dX8_spanBy_76 rfl (by decide) (by omega) ?_
          refine aw_ti hhi.1 ?_
          first | with_reducible refine aw_icmpgeN hX (tgt := 122) dX8_spanBy_77 (by decide) (by omega) (by omega) (fun c_77 => ?_) (fun c_77 => ?_) | refine aw_jge hX (tgt := 122) dX8_spanBy_77 (by decide) (fun c_77 => ?_) (fun c_77 => ?_)
          · exact absurd c_77 (by omega)
          · skip
            refine aw_aload_0 hX dX8_spanBy_80 ?_
            refine ag_X8_fuelOf hX fl_X8_19 dX8_spanBy_81 ?_
            refine aw_iload_5 hX dX8_spanBy_84 ?_
            refine aw_iald hX dX8_spanBy_86 rfl (by decide) (by omega) ?_
            refine aw_iload_1 hX dX8_spanBy_87 ?_
            first | with_reducible refine aw_icmpneN hX (tgt := 112) dX8_spanBy_88 (by decide) (by omega) (by omega) (fun c_88 => ?_) (fun c_88 => ?_) | refine aw_icmpne hX (tgt := 112) dX8_spanBy_88 (by decide) (fun c_88 => ?_) (fun c_88 => ?_)
            · skip
              refine aw_iload_4 hX dX8_spanBy_112 ?_
              refine aw_istore_4 hX rfl (by decide) dX8_spanBy_114 ?_
              first | with_reducible refine aw_iinc_5N hX rfl (by decide) dX8_spanBy_116 ?_ | refine aw_iinc_5 hX rfl (by decide) dX8_spanBy_116 ?_
              refine aw_goto hX (tgt := 61) dX8_spanBy_119 (by decide) ?_
              exact ih (c + 1) (by omega) _ (by simp only [spL, ← hp]; simp [c_64, c_77, c_88])
            · skip
              refine aw_aload_0 hX dX8_spanBy_91 ?_
              refine ag_X8_fromOf hX fl_X8_25 dX8_spanBy_92 ?_
              refine aw_iload_5 hX dX8_spanBy_95 ?_
              refine aw_iald hX dX8_spanBy_97 rfl (by decide) (by omega) ?_
              refine aw_iload_2 hX dX8_spanBy_98 ?_
              first | with_reducible refine aw_icmpgtN hX (tgt := 112) dX8_spanBy_99 (by decide) (by omega) (by omega) (fun c_99 => ?_) (fun c_99 => ?_) | refine aw_jgt hX (tgt := 112) dX8_spanBy_99 (by decide) (fun c_99 => ?_) (fun c_99 => ?_)
              · skip
                refine aw_iload_4 hX dX8_spanBy_112 ?_
                refine aw_istore_4 hX rfl (by decide) dX8_spanBy_114 ?_
                first | with_reducible refine aw_iinc_5N hX rfl (by decide) dX8_spanBy_116 ?_ | refine aw_iinc_5 hX rfl (by decide) dX8_spanBy_116 ?_
                refine aw_goto hX (tgt := 61) dX8_spanBy_119 (by decide) ?_
                exact ih (c + 1) (by omega) _ (by simp only [spL, ← hp]; simp [c_64, c_77, c_88, c_99])
              · skip
                refine aw_aload_0 hX dX8_spanBy_102 ?_
                refine ag_X8_spanOf hX fl_X8_22 dX8_spanBy_103 ?_
                refine aw_iload_5 hX dX8_spanBy_106 ?_
                refine aw_iald hX dX8_spanBy_108 rfl (by decide) (by omega) ?_
                refine aw_goto hX (tgt := 114) dX8_spanBy_109 (by decide) ?_
                refine aw_istore_4 hX rfl (by decide) dX8_spanBy_114 ?_
                first | with_reducible refine aw_iinc_5N hX rfl (by decide) dX8_spanBy_116 ?_ | refine aw_iinc_5 hX rfl (by decide) dX8_spanBy_116 ?_
                refine aw_goto hX (tgt := 61) dX8_spanBy_119 (by decide) ?_
                exact ih (c + 1) (by omega) _ (by simp only [spL, ← hp]; simp [c_64, c_77, c_88, c_99])
    refine aw_bipush hX (v := nI 100) (by decide) dX8_spanBy_39 ?_
    refine aw_istore_4 hX rfl (by decide) dX8_spanBy_41 ?_
    refine aw_iload_3 hX dX8_spanBy_43 ?_
    refine aw_bipush hX (v := (-9)) (by decide) dX8_spanBy_44 ?_
    first | with_reducible refine aw_icmpneN hX (tgt := 53) dX8_spanBy_46 (by decide) (by omega) (by omega) (fun c_46 => ?_) (fun c_46 => ?_) | refine aw_icmpne hX (tgt := 53) dX8_spanBy_46 (by decide) (fun c_46 => ?_) (fun c_46 => ?_)
    · skip
      refine aw_aload_0 hX dX8_spanBy_53 ?_
      refine ag_X8_begins hX fl_X8_16 dX8_spanBy_54 ?_
      refine aw_iload_3 hX dX8_spanBy_57 ?_
      refine aw_iald hX dX8_spanBy_58 rfl (by decide) (by omega) ?_
      refine aw_ti hlo.1 ?_
      refine aw_istore_5 hX rfl (by decide) dX8_spanBy_59 ?_
      exact l2 (tn (S.2.1 48 (k + 1)) - tn (S.2.1 48 k)) 0 (by omega) _ rfl
    · exact absurd c_46 (ne9 (by omega))
set_option maxHeartbeats 4000000 in
set_option maxRecDepth 100000 in
theorem m_X8_dueBy (d : Nat) (G : GT) (S : St) (i w : Nat) (hi : i < 12) (hw : w ≤ 500) (hb : BmOK S) (hsp : ∀ f dy, spM S f dy ≤ nI 200) : rX8_dueBy G (d + 2) [.ref (gad G 8), .int (nI i), .int (nI w)] S (some (.int (nI (duM S (ofM S i 1) w)))) S := by
  refine runs_I (d := (d + 1)) (by decide) (Nat.le_of_ble_eq_true rfl) (fun X (hX : XC X G (d + 1) RX8 cX8_dueBy 4) hR => ?_)
  show AW X G 0 [.ref (gad G 8), .int (nI i), .int (nI w), .null] [] S
  have loop : ∀ n j : Nat, j + n = 200 → fdL (fun j => decide (spO (S.1 16) (S.2.1 47) (S.2.1 48) (S.2.1 49) (S.2.1 50) (S.2.1 51) (ofM S i 1) (nI (w + j)) ≤ nI j)) n j = fdL (fun j => decide (spO (S.1 16) (S.2.1 47) (S.2.1 48) (S.2.1 49) (S.2.1 50) (S.2.1 51) (ofM S i 1) (nI (w + j)) ≤ nI j)) 199 1 → AW X G 2 [.ref (gad G 8), .int (nI i), .int (nI w), .int (nI j)] [] S := by
    intro n
    induction n with
    | zero =>
      intro j hj hp
      obtain rfl : j = 200 := by omega
      refine aw_iload_3 hX dX8_dueBy_2 ?_
      refine aw_aload_0 hX dX8_dueBy_3 ?_
      refine aw_aload_0 hX dX8_dueBy_4 ?_
      refine aw_iload_1 hX dX8_dueBy_5 ?_
      refine aw_iconst hX (v := nI 1) (by decide) dX8_dueBy_6 ?_
      refine cv_X8_of hX ml_X8_99 dX8_dueBy_7 (m_X8_of _ G S i 1 hi (by decide)) (Nat.le_of_ble_eq_true rfl) ?_
      refine aw_iload_2 hX dX8_dueBy_10 ?_
      refine aw_iload_3 hX dX8_dueBy_11 ?_
      first | with_reducible refine aw_iaddN hX dX8_dueBy_12 ?_ | refine aw_iadd hX dX8_dueBy_12 ?_
      refine cv_X8_spanBy hX ml_X8_89 dX8_dueBy_13 (m_X8_spanBy _ G S _ _ hb) (Nat.le_of_ble_eq_true rfl) ?_
      first | with_reducible refine aw_icmpgeN hX (tgt := 25) dX8_dueBy_16 (by decide) (by omega) (by omega) (fun c_16 => ?_) (fun c_16 => ?_) | refine aw_jge hX (tgt := 25) dX8_dueBy_16 (by decide) (fun c_16 => ?_) (fun c_16 => ?_)
      · skip
        refine aw_iload_2 hX dX8_dueBy_25 ?_
        refine aw_iload_3 hX dX8_dueBy_26 ?_
        first | with_reducible refine aw_iaddN hX dX8_dueBy_27 ?_ | refine aw_iadd hX dX8_dueBy_27 ?_
        refine aw_finI (hR _ _ dX8_dueBy_28) ?_ ?_
        · rw [duM, duO, ← hp]; rfl
        · rfl
      · exact absurd (hsp _ _) c_16
    | succ n ih =>
      intro j hj hp
      refine aw_iload_3 hX dX8_dueBy_2 ?_
      refine aw_aload_0 hX dX8_dueBy_3 ?_
      refine aw_aload_0 hX dX8_dueBy_4 ?_
      refine aw_iload_1 hX dX8_dueBy_5 ?_
      refine aw_iconst hX (v := nI 1) (by decide) dX8_dueBy_6 ?_
      refine cv_X8_of hX ml_X8_99 dX8_dueBy_7 (m_X8_of _ G S i 1 hi (by decide)) (Nat.le_of_ble_eq_true rfl) ?_
      refine aw_iload_2 hX dX8_dueBy_10 ?_
      refine aw_iload_3 hX dX8_dueBy_11 ?_
      first | with_reducible refine aw_iaddN hX dX8_dueBy_12 ?_ | refine aw_iadd hX dX8_dueBy_12 ?_
      refine cv_X8_spanBy hX ml_X8_89 dX8_dueBy_13 (m_X8_spanBy _ G S _ _ hb) (Nat.le_of_ble_eq_true rfl) ?_
      first | with_reducible refine aw_icmpgeN hX (tgt := 25) dX8_dueBy_16 (by decide) (by omega) (by omega) (fun c_16 => ?_) (fun c_16 => ?_) | refine aw_jge hX (tgt := 25) dX8_dueBy_16 (by decide) (fun c_16 => ?_) (fun c_16 => ?_)
      · rw [spM] at c_16
        refine aw_iload_2 hX dX8_dueBy_25 ?_
        refine aw_iload_3 hX dX8_dueBy_26 ?_
        first | with_reducible refine aw_iaddN hX dX8_dueBy_27 ?_ | refine aw_iadd hX dX8_dueBy_27 ?_
        refine aw_finI (hR _ _ dX8_dueBy_28) ?_ ?_
        · rw [duM, duO, ← hp]; simp [fdL, c_16]
        · rfl
      · rw [spM] at c_16
        first | with_reducible refine aw_iinc_3N hX rfl (by decide) dX8_dueBy_19 ?_ | refine aw_iinc_3 hX rfl (by decide) dX8_dueBy_19 ?_
        refine aw_goto hX (tgt := 2) dX8_dueBy_22 (by decide) ?_
        exact ih (j + 1) (by omega) (by rw [← hp]; simp [fdL, c_16])
  refine aw_iconst hX (v := nI 1) (by decide) dX8_dueBy_0 ?_
  refine aw_istore_3 hX rfl (by decide) dX8_dueBy_1 ?_
  exact loop 199 1 (by omega) rfl
