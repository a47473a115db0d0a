/-! reading THE DRAFT: the class's own words -/
def dgX (S : St) : Int32 := if S.1 4 < S.1 2 then (if S.2.1 10 (S.1 4) - nI 48 ≤ nI 9 then S.2.1 10 (S.1 4) - nI 48 else -1) else -1
def snX (m : Nat) : Nat → St → Bool × St
  | 0, S => (true, S)
  | k + 1, S => if S.2.2.2 0 ≤ 0 ∨ S.1 2 ≤ S.1 4 ∨ ¬ 0 ≤ dgX S then (true, S) else if S.2.2.2 0 * nI 10 + dgX S ≤ nI m then snX m k (sN (sR S 0 (S.2.2.2 0 * nI 10 + dgX S)) 4 (S.1 4 + 1)) else (false, S)
def rnX (S : St) (l m : Nat) : Bool × St := if nI l ≤ dgX (sN S 4 (S.1 4 + 1)) then snX m 60 (sN (sR (sN S 4 (S.1 4 + 1)) 0 (dgX (sN S 4 (S.1 4 + 1)))) 4 (S.1 4 + 1 + 1)) else (false, sR (sN S 4 (S.1 4 + 1)) 0 (dgX (sN S 4 (S.1 4 + 1))))
def rfX (S : St) : Bool × St := if (rnX S 0 500).1 = true then (true, sN (rnX S 0 500).2 5 (tn ((rnX S 0 500).2.2.2.2 0))) else (false, (rnX S 0 500).2)
def itX (S : St) (f : Nat) : St := sN (sA (sA (sA S 11 (S.1 3) (nI f)) 12 (S.1 3) (S.2.2.2 0)) 13 (S.1 3) (nI (S.1 5))) 3 (S.1 3 + 1)
def rpX (S : St) (f : Nat) : Bool × St := if (rnX S 1 200).1 = true then (true, itX (rnX S 1 200).2 f) else (false, (rnX S 1 200).2)
def rsX (S : St) (x : Int32) : Bool × St := if x = nI 32 then (true, sN S 4 (S.1 4 + 1)) else if x = nI 64 then rfX S else if x = nI 99 then rpX S 2 else if x = nI 103 then rpX S 0 else if x = nI 119 then rpX S 1 else (false, S)
def riX : Nat → St → Int32 × St
  | 0, S => (-9, S)
  | k + 1, S => if S.1 2 ≤ S.1 4 then (-9, S) else if (rsX S (S.2.1 10 (S.1 4))).1 = true then riX k (rsX S (S.2.1 10 (S.1 4))).2 else (nI ((rsX S (S.2.1 10 (S.1 4))).2.1 4), (rsX S (S.2.1 10 (S.1 4))).2)
theorem snX_N {m j : Nat} (h : j ≠ 4) : ∀ (k : Nat) (S : St), (snX m k S).2.1 j = S.1 j
  | 0, S => rfl
  | k + 1, S => by
    unfold snX
    split
    · rfl
    · split
      · rw [snX_N h k]; simp only [sN_N, sR_N, if_neg h]
      · rfl
theorem snX_A {m : Nat} : ∀ (k : Nat) (S : St), (snX m k S).2.2.1 = S.2.1
  | 0, S => rfl
  | k + 1, S => by
    unfold snX
    split
    · rfl
    · split
      · rw [snX_A k]; rfl
      · rfl
theorem snX_L {m : Nat} : ∀ (k : Nat) (S : St), (snX m k S).2.2.2.1 = S.2.2.1
  | 0, S => rfl
  | k + 1, S => by
    unfold snX
    split
    · rfl
    · split
      · rw [snX_L k]; rfl
      · rfl
theorem rnX_N {S : St} {l m j : Nat} (h : j ≠ 4) : (rnX S l m).2.1 j = S.1 j := by
  unfold rnX
  split
  · rw [snX_N h]; simp only [sN_N, sR_N, if_neg h]
  · simp only [sN_N, sR_N, if_neg h]
theorem rnX_A {S : St} {l m : Nat} : (rnX S l m).2.2.1 = S.2.1 := by
  unfold rnX
  split
  · rw [snX_A]; rfl
  · rfl
theorem rnX_L {S : St} {l m : Nat} : (rnX S l m).2.2.2.1 = S.2.2.1 := by
  unfold rnX
  split
  · rw [snX_L]; rfl
  · rfl
theorem rnX_2 {S : St} {l m : Nat} : (rnX S l m).2.1 2 = S.1 2 := rnX_N (by decide)
theorem rnX_3 {S : St} {l m : Nat} : (rnX S l m).2.1 3 = S.1 3 := rnX_N (by decide)
theorem rnX_5 {S : St} {l m : Nat} : (rnX S l m).2.1 5 = S.1 5 := rnX_N (by decide)
set_option maxHeartbeats 4000000 in
set_option maxRecDepth 100000 in
theorem m_X0_digitAtPlace (d : Nat) (G : GT) (S : St) (h2 : S.1 2 ≤ 60) (h4 : S.1 4 ≤ 100) : rX0_digitAtPlace G (d + 1) [.ref (gad G 1)] S (some (.int (dgX S))) S := by
  refine runs_I (d := d) (by decide) (Nat.le_of_ble_eq_true rfl) (fun X (hX : XC X G d RX0 cX0_digitAtPlace 2) hR => ?_)
  show AW X G 0 [.ref (gad G 1), .null] [] S
  refine aw_aload_0 hX dX0_digitAtPlace_0 ?_
  refine ag_X0_place hX fl_X0_31 dX0_digitAtPlace_1 ?_
  refine aw_aload_0 hX dX0_digitAtPlace_4 ?_
  refine ag_X0_size hX fl_X0_15 dX0_digitAtPlace_5 ?_
  first | with_reducible refine aw_icmpltN hX (tgt := 13) dX0_digitAtPlace_8 (by decide) (by omega) (by omega) (fun c_8 => ?_) (fun c_8 => ?_) | refine aw_jlt hX (tgt := 13) dX0_digitAtPlace_8 (by decide) (fun c_8 => ?_) (fun c_8 => ?_)
  · skip
    refine aw_aload_0 hX dX0_digitAtPlace_13 ?_
    refine ag_X0_bytes hX fl_X0_11 dX0_digitAtPlace_14 ?_
    refine aw_aload_0 hX dX0_digitAtPlace_17 ?_
    refine ag_X0_place hX fl_X0_31 dX0_digitAtPlace_18 ?_
    refine aw_iald hX dX0_digitAtPlace_21 rfl (by decide) (by omega) ?_
    refine aw_bipush hX (v := nI 48) (by decide) dX0_digitAtPlace_22 ?_
    refine aw_isub hX dX0_digitAtPlace_24 ?_
    refine aw_istore_1 hX rfl (by decide) dX0_digitAtPlace_25 ?_
    refine aw_iload_1 hX dX0_digitAtPlace_26 ?_
    refine aw_bipush hX (v := nI 9) (by decide) dX0_digitAtPlace_27 ?_
    first | with_reducible refine aw_icmpgtN hX (tgt := 36) dX0_digitAtPlace_29 (by decide) (by omega) (by omega) (fun c_29 => ?_) (fun c_29 => ?_) | refine aw_jgt hX (tgt := 36) dX0_digitAtPlace_29 (by decide) (fun c_29 => ?_) (fun c_29 => ?_)
    · skip
      refine aw_iconst hX (v := (-1)) (by decide) dX0_digitAtPlace_36 ?_
      refine aw_finI (hR _ _ dX0_digitAtPlace_37) ?_ ?_
      · first | (simp [dgX, c_8, c_29]; done) | (simp only [dgX, if_neg (show ¬ S.1 4 < S.1 2 by omega)]; done)
      · rfl
    · skip
      refine aw_iload_1 hX dX0_digitAtPlace_32 ?_
      refine aw_goto hX (tgt := 37) dX0_digitAtPlace_33 (by decide) ?_
      refine aw_finI (hR _ _ dX0_digitAtPlace_37) ?_ ?_
      · first | (simp [dgX, c_8, c_29]; done) | (simp only [dgX, if_neg (show ¬ S.1 4 < S.1 2 by omega)]; done)
      · rfl
  · skip
    refine aw_iconst hX (v := (-1)) (by decide) dX0_digitAtPlace_11 ?_
    refine aw_finI (hR _ _ dX0_digitAtPlace_12) ?_ ?_
    · first | (simp [dgX, c_8]; done) | (simp only [dgX, if_neg (show ¬ S.1 4 < S.1 2 by omega)]; done)
    · rfl
set_option maxHeartbeats 4000000 in
set_option maxRecDepth 100000 in
theorem m_X0_readNumber (d : Nat) (G : GT) (S : St) (l m : Nat) (hl : l ≤ 1) (hm : m ≤ 500) (h2 : S.1 2 ≤ 60) (h4 : S.1 4 ≤ 59) : rX0_readNumber G (d + 2) [.ref (gad G 1), .int (nI l), .int (nI m)] S (some (.int (bI ((rnX S l m).1)))) (rnX S l m).2 := by
  refine runs_Z (d := (d + 1)) (by decide) (Nat.le_of_ble_eq_true rfl) (fun X (hX : XC X G (d + 1) RX0 cX0_readNumber 4) hR => ?_)
  show AW X G 0 [.ref (gad G 1), .int (nI l), .int (nI m), .null] [] S
  have loop : ∀ (k : Nat) (S1 : St), S1.1 2 ≤ 60 → S1.1 4 ≤ 61 → S1.1 2 ≤ S1.1 4 + k → snX m k S1 = rnX S l m → ∀ v3 : Value, AW X G 38 [.ref (gad G 1), .int (nI l), .int (nI m), v3] [] S1 := by
    intro k
    induction k with
    | zero =>
      intro S1 h2 h4 hk hp v3
      refine aw_aload_0 hX dX0_readNumber_38 ?_
      refine ag_X0_number hX fl_X0_34 dX0_readNumber_39 ?_
      refine aw_ifle hX (tgt := 108) dX0_readNumber_42 (by decide) (fun c_42 => ?_) (fun c_42 => ?_)
      · skip
        refine aw_iconst hX (v := nI 1) (by decide) dX0_readNumber_108 ?_
        refine aw_finI (hR _ _ dX0_readNumber_109) ?_ ?_
        · rw [← hp]; first | rfl | (simp [snX, c_42]; done) | (simp [snX, c_42]; rfl)
        · rw [← hp]; first | rfl | (simp [snX, c_42]; done)
      · skip
        refine aw_aload_0 hX dX0_readNumber_45 ?_
        refine ag_X0_place hX fl_X0_31 dX0_readNumber_46 ?_
        refine aw_aload_0 hX dX0_readNumber_49 ?_
        refine ag_X0_size hX fl_X0_15 dX0_readNumber_50 ?_
        first | with_reducible refine aw_icmpgeN hX (tgt := 108) dX0_readNumber_53 (by decide) (by omega) (by omega) (fun c_53 => ?_) (fun c_53 => ?_) | refine aw_jge hX (tgt := 108) dX0_readNumber_53 (by decide) (fun c_53 => ?_) (fun c_53 => ?_)
        · skip
          refine aw_iconst hX (v := nI 1) (by decide) dX0_readNumber_108 ?_
          refine aw_finI (hR _ _ dX0_readNumber_109) ?_ ?_
          · rw [← hp]; first | rfl | (simp [snX, c_42, c_53]; done) | (simp [snX, c_42, c_53]; rfl)
          · rw [← hp]; first | rfl | (simp [snX, c_42, c_53]; done)
        · exact absurd c_53 (by omega)
    | succ n ih =>
      intro S1 h2 h4 hk hp v3
      refine aw_aload_0 hX dX0_readNumber_38 ?_
      refine ag_X0_number hX fl_X0_34 dX0_readNumber_39 ?_
      refine aw_ifle hX (tgt := 108) dX0_readNumber_42 (by decide) (fun c_42 => ?_) (fun c_42 => ?_)
      · skip
        refine aw_iconst hX (v := nI 1) (by decide) dX0_readNumber_108 ?_
        refine aw_finI (hR _ _ dX0_readNumber_109) ?_ ?_
        · rw [← hp]; first | rfl | (simp [snX, c_42]; done) | (simp [snX, c_42]; rfl)
        · rw [← hp]; first | rfl | (simp [snX, c_42]; done)
      · skip
        refine aw_aload_0 hX dX0_readNumber_45 ?_
        refine ag_X0_place hX fl_X0_31 dX0_readNumber_46 ?_
        refine aw_aload_0 hX dX0_readNumber_49 ?_
        refine ag_X0_size hX fl_X0_15 dX0_readNumber_50 ?_
        first | with_reducible refine aw_icmpgeN hX (tgt := 108) dX0_readNumber_53 (by decide) (by omega) (by omega) (fun c_53 => ?_) (fun c_53 => ?_) | refine aw_jge hX (tgt := 108) dX0_readNumber_53 (by decide) (fun c_53 => ?_) (fun c_53 => ?_)
        · skip
          refine aw_iconst hX (v := nI 1) (by decide) dX0_readNumber_108 ?_
          refine aw_finI (hR _ _ dX0_readNumber_109) ?_ ?_
          · rw [← hp]; first | rfl | (simp [snX, c_42, c_53]; done) | (simp [snX, c_42, c_53]; rfl)
          · rw [← hp]; first | rfl | (simp [snX, c_42, c_53]; done)
        · replace c_53 : ¬ S1.1 2 ≤ S1.1 4 := by omega
          refine aw_aload_0 hX dX0_readNumber_56 ?_
          refine cv_X0_digitAtPlace hX ml_X0_55 dX0_readNumber_57 (m_X0_digitAtPlace _ G S1 h2 (by omega)) (Nat.le_of_ble_eq_true rfl) ?_
          refine aw_istore_3 hX rfl (by decide) dX0_readNumber_60 ?_
          refine aw_iload_3 hX dX0_readNumber_61 ?_
          refine aw_ifge hX (tgt := 67) dX0_readNumber_62 (by decide) (fun c_62 => ?_) (fun c_62 => ?_)
          · skip
            refine aw_aload_0 hX dX0_readNumber_67 ?_
            refine ag_X0_number hX fl_X0_34 dX0_readNumber_68 ?_
            refine aw_bipush hX (v := nI 10) (by decide) dX0_readNumber_71 ?_
            first | with_reducible refine aw_imulN hX dX0_readNumber_73 ?_ | refine aw_imul hX dX0_readNumber_73 ?_
            refine aw_iload_3 hX dX0_readNumber_74 ?_
            first | with_reducible refine aw_iaddN hX dX0_readNumber_75 ?_ | refine aw_iadd hX dX0_readNumber_75 ?_
            refine aw_iload_2 hX dX0_readNumber_76 ?_
            first | with_reducible refine aw_icmpleN hX (tgt := 82) dX0_readNumber_77 (by decide) (by omega) (by omega) (fun c_77 => ?_) (fun c_77 => ?_) | refine aw_jle hX (tgt := 82) dX0_readNumber_77 (by decide) (fun c_77 => ?_) (fun c_77 => ?_)
            · skip
              refine aw_aload_0 hX dX0_readNumber_82 ?_
              refine aw_aload_0 hX dX0_readNumber_83 ?_
              refine ag_X0_number hX fl_X0_34 dX0_readNumber_84 ?_
              refine aw_bipush hX (v := nI 10) (by decide) dX0_readNumber_87 ?_
              first | with_reducible refine aw_imulN hX dX0_readNumber_89 ?_ | refine aw_imul hX dX0_readNumber_89 ?_
              refine aw_iload_3 hX dX0_readNumber_90 ?_
              first | with_reducible refine aw_iaddN hX dX0_readNumber_91 ?_ | refine aw_iadd hX dX0_readNumber_91 ?_
              refine ap_X0_number hX fl_X0_34 dX0_readNumber_92 ?_
              refine aw_aload_0 hX dX0_readNumber_95 ?_
              refine aw_dup hX rfl dX0_readNumber_96 ?_
              refine ag_X0_place hX fl_X0_31 dX0_readNumber_97 ?_
              try simp +decide only [sN_N, sN_A, sN_L, sN_R, sA_N, sA_A, sA_L, sA_R, sL_N, sL_A, sL_L, sL_R, sR_N, sR_A, sR_L, sR_R, reduceIte]
              refine aw_iconst hX (v := nI 1) (by decide) dX0_readNumber_100 ?_
              first | with_reducible refine aw_iaddN hX dX0_readNumber_101 ?_ | refine aw_iadd hX dX0_readNumber_101 ?_
              refine ap_X0_place hX fl_X0_31 dX0_readNumber_102 ?_
              refine aw_goto hX (tgt := 38) dX0_readNumber_105 (by decide) ?_
              exact ih _ (by simp +decide only [sN_N, sR_N, reduceIte]; exact h2) (by simp +decide only [sN_N, sR_N, reduceIte]; omega) (by simp +decide only [sN_N, sR_N, reduceIte]; omega) (by rw [← hp]; simp only [snX]; simp [c_42, c_53, c_62, c_77]) _
            · skip
              refine aw_iconst hX (v := nI 0) (by decide) dX0_readNumber_80 ?_
              refine aw_finI (hR _ _ dX0_readNumber_81) ?_ ?_
              · rw [← hp]; first | rfl | (simp [snX, c_42, c_53, c_62, c_77]; done) | (simp [snX, c_42, c_53, c_62, c_77]; rfl)
              · rw [← hp]; first | rfl | (simp [snX, c_42, c_53, c_62, c_77]; done)
          · skip
            refine aw_iconst hX (v := nI 1) (by decide) dX0_readNumber_65 ?_
            refine aw_finI (hR _ _ dX0_readNumber_66) ?_ ?_
            · rw [← hp]; first | rfl | (simp [snX, c_42, c_53, c_62]; done) | (simp [snX, c_42, c_53, c_62]; rfl)
            · rw [← hp]; first | rfl | (simp [snX, c_42, c_53, c_62]; done)
  refine aw_aload_0 hX dX0_readNumber_0 ?_
  refine aw_dup hX rfl dX0_readNumber_1 ?_
  refine ag_X0_place hX fl_X0_31 dX0_readNumber_2 ?_
  refine aw_iconst hX (v := nI 1) (by decide) dX0_readNumber_5 ?_
  first | with_reducible refine aw_iaddN hX dX0_readNumber_6 ?_ | refine aw_iadd hX dX0_readNumber_6 ?_
  refine ap_X0_place hX fl_X0_31 dX0_readNumber_7 ?_
  refine aw_aload_0 hX dX0_readNumber_10 ?_
  refine aw_aload_0 hX dX0_readNumber_11 ?_
  refine cv_X0_digitAtPlace hX ml_X0_55 dX0_readNumber_12 (m_X0_digitAtPlace _ G (sN S 4 (S.1 4 + 1)) h2 (by simp +decide only [sN_N, reduceIte]; omega)) (Nat.le_of_ble_eq_true rfl) ?_
  refine ap_X0_number hX fl_X0_34 dX0_readNumber_15 ?_
  refine aw_aload_0 hX dX0_readNumber_18 ?_
  refine ag_X0_number hX fl_X0_34 dX0_readNumber_19 ?_
  try simp +decide only [sN_N, sN_A, sN_L, sN_R, sA_N, sA_A, sA_L, sA_R, sL_N, sL_A, sL_L, sL_R, sR_N, sR_A, sR_L, sR_R, reduceIte]
  refine aw_iload_1 hX dX0_readNumber_22 ?_
  refine aw_jge hX (tgt := 28) dX0_readNumber_23 (by decide) (fun c_23 => ?_) (fun c_23 => ?_)
  · skip
    refine aw_aload_0 hX dX0_readNumber_28 ?_
    refine aw_dup hX rfl dX0_readNumber_29 ?_
    refine ag_X0_place hX fl_X0_31 dX0_readNumber_30 ?_
    try simp +decide only [sN_N, sN_A, sN_L, sN_R, sA_N, sA_A, sA_L, sA_R, sL_N, sL_A, sL_L, sL_R, sR_N, sR_A, sR_L, sR_R, reduceIte]
    refine aw_iconst hX (v := nI 1) (by decide) dX0_readNumber_33 ?_
    first | with_reducible refine aw_iaddN hX dX0_readNumber_34 ?_ | refine aw_iadd hX dX0_readNumber_34 ?_
    refine ap_X0_place hX fl_X0_31 dX0_readNumber_35 ?_
    exact loop 60 _ (by exact h2) (by simp +decide only [sN_N, sR_N, reduceIte]; omega) (by simp +decide only [sN_N, sR_N, reduceIte]; omega) (by rw [rnX, if_pos c_23]) _
  · skip
    refine aw_iconst hX (v := nI 0) (by decide) dX0_readNumber_26 ?_
    refine aw_finI (hR _ _ dX0_readNumber_27) ?_ ?_
    · rw [rnX, if_neg c_23]; rfl
    · rw [rnX, if_neg c_23]
set_option maxHeartbeats 4000000 in
set_option maxRecDepth 100000 in
theorem m_X0_readFrom (d : Nat) (G : GT) (S : St) (h2 : S.1 2 ≤ 60) (h4 : S.1 4 ≤ 59) (hn : (rnX S 0 500).1 = true → (rnX S 0 500).2.2.2.2 0 = nI (tn ((rnX S 0 500).2.2.2.2 0))) : rX0_readFrom G (d + 3) [.ref (gad G 1)] S (some (.int (bI ((rfX S).1)))) (rfX S).2 := by
  refine runs_Z (d := (d + 2)) (by decide) (Nat.le_of_ble_eq_true rfl) (fun X (hX : XC X G (d + 2) RX0 cX0_readFrom 1) hR => ?_)
  show AW X G 0 [.ref (gad G 1)] [] S
  refine aw_aload_0 hX dX0_readFrom_0 ?_
  refine aw_iconst hX (v := nI 0) (by decide) dX0_readFrom_1 ?_
  refine aw_sipush hX (v := nI 500) (by decide) dX0_readFrom_2 ?_
  refine cv_X0_readNumber hX ml_X0_51 dX0_readFrom_5 (m_X0_readNumber _ G S 0 500 (by omega) (by omega) h2 h4) (Nat.le_of_ble_eq_true rfl) ?_
  first | with_reducible refine aw_ifneB hX (tgt := 13) dX0_readFrom_8 (by decide) (fun c_8 => ?_) (fun c_8 => ?_) | refine aw_ifne hX (tgt := 13) dX0_readFrom_8 (by decide) (fun c_8 => ?_) (fun c_8 => ?_)
  · skip
    refine aw_aload_0 hX dX0_readFrom_13 ?_
    refine aw_aload_0 hX dX0_readFrom_14 ?_
    refine ag_X0_number hX fl_X0_34 dX0_readFrom_15 ?_
    refine aw_ti (hn c_8) ?_
    refine ap_X0_from hX fl_X0_37 dX0_readFrom_18 ?_
    refine aw_iconst hX (v := nI 1) (by decide) dX0_readFrom_21 ?_
    refine aw_finI (hR _ _ dX0_readFrom_22) ?_ ?_
    · first | exact bF (by simp [rfX, c_8]) | exact bT (by simp [rfX, c_8])
    · simp [rfX, c_8]
  · skip
    refine aw_iconst hX (v := nI 0) (by decide) dX0_readFrom_11 ?_
    refine aw_finI (hR _ _ dX0_readFrom_12) ?_ ?_
    · first | exact bF (by simp [rfX, c_8]) | exact bT (by simp [rfX, c_8])
    · simp [rfX, c_8]
set_option maxHeartbeats 4000000 in
set_option maxRecDepth 100000 in
theorem m_X0_readSpan (d : Nat) (G : GT) (S : St) (f : Nat) (h2 : S.1 2 ≤ 60) (h4 : S.1 4 ≤ 59) (h3 : S.1 3 < 30) : rX0_readSpan G (d + 3) [.ref (gad G 1), .int (nI f)] S (some (.int (bI ((rpX S f).1)))) (rpX S f).2 := by
  refine runs_Z (d := (d + 2)) (by decide) (Nat.le_of_ble_eq_true rfl) (fun X (hX : XC X G (d + 2) RX0 cX0_readSpan 2) hR => ?_)
  show AW X G 0 [.ref (gad G 1), .int (nI f)] [] S
  refine aw_aload_0 hX dX0_readSpan_0 ?_
  refine aw_iconst hX (v := nI 1) (by decide) dX0_readSpan_1 ?_
  refine aw_sipush hX (v := nI 200) (by decide) dX0_readSpan_2 ?_
  refine cv_X0_readNumber hX ml_X0_51 dX0_readSpan_5 (m_X0_readNumber _ G S 1 200 (by omega) (by omega) h2 h4) (Nat.le_of_ble_eq_true rfl) ?_
  first | with_reducible refine aw_ifneB hX (tgt := 13) dX0_readSpan_8 (by decide) (fun c_8 => ?_) (fun c_8 => ?_) | refine aw_ifne hX (tgt := 13) dX0_readSpan_8 (by decide) (fun c_8 => ?_) (fun c_8 => ?_)
  · skip
    refine aw_aload_0 hX dX0_readSpan_13 ?_
    refine ag_X0_items hX fl_X0_28 dX0_readSpan_14 ?_
    try simp +decide only [sN_N, sN_A, sN_L, sN_R, sA_N, sA_A, sA_L, sA_R, sL_N, sL_A, sL_L, sL_R, sR_N, sR_A, sR_L, sR_R, reduceIte, rnX_3, rnX_5]
    refine aw_bipush hX (v := nI 30) (by decide) dX0_readSpan_17 ?_
    first | with_reducible refine aw_icmpgeN hX (tgt := 68) dX0_readSpan_19 (by decide) (by omega) (by omega) (fun c_19 => ?_) (fun c_19 => ?_) | refine aw_jge hX (tgt := 68) dX0_readSpan_19 (by decide) (fun c_19 => ?_) (fun c_19 => ?_)
    · exact absurd c_19 (by omega)
    · skip
      refine aw_aload_0 hX dX0_readSpan_22 ?_
      refine ag_X0_itemFuel hX fl_X0_19 dX0_readSpan_23 ?_
      try simp +decide only [sN_N, sN_A, sN_L, sN_R, sA_N, sA_A, sA_L, sA_R, sL_N, sL_A, sL_L, sL_R, sR_N, sR_A, sR_L, sR_R, reduceIte, rnX_3, rnX_5]
      refine aw_aload_0 hX dX0_readSpan_26 ?_
      refine ag_X0_items hX fl_X0_28 dX0_readSpan_27 ?_
      try simp +decide only [sN_N, sN_A, sN_L, sN_R, sA_N, sA_A, sA_L, sA_R, sL_N, sL_A, sL_L, sL_R, sR_N, sR_A, sR_L, sR_R, reduceIte, rnX_3, rnX_5]
      refine aw_iload_1 hX dX0_readSpan_30 ?_
      refine aw_iast hX dX0_readSpan_31 rfl (fun _ => rfl) (by decide) (by omega) ?_
      refine aw_aload_0 hX dX0_readSpan_32 ?_
      refine ag_X0_itemSpan hX fl_X0_22 dX0_readSpan_33 ?_
      try simp +decide only [sN_N, sN_A, sN_L, sN_R, sA_N, sA_A, sA_L, sA_R, sL_N, sL_A, sL_L, sL_R, sR_N, sR_A, sR_L, sR_R, reduceIte, rnX_3, rnX_5]
      refine aw_aload_0 hX dX0_readSpan_36 ?_
      refine ag_X0_items hX fl_X0_28 dX0_readSpan_37 ?_
      try simp +decide only [sN_N, sN_A, sN_L, sN_R, sA_N, sA_A, sA_L, sA_R, sL_N, sL_A, sL_L, sL_R, sR_N, sR_A, sR_L, sR_R, reduceIte, rnX_3, rnX_5]
      refine aw_aload_0 hX dX0_readSpan_40 ?_
      refine ag_X0_number hX fl_X0_34 dX0_readSpan_41 ?_
      try simp +decide only [sN_N, sN_A, sN_L, sN_R, sA_N, sA_A, sA_L, sA_R, sL_N, sL_A, sL_L, sL_R, sR_N, sR_A, sR_L, sR_R, reduceIte, rnX_3, rnX_5]
      refine aw_iast hX dX0_readSpan_44 rfl (fun _ => rfl) (by decide) (by omega) ?_
      refine aw_aload_0 hX dX0_readSpan_45 ?_
      refine ag_X0_itemFrom hX fl_X0_25 dX0_readSpan_46 ?_
      try simp +decide only [sN_N, sN_A, sN_L, sN_R, sA_N, sA_A, sA_L, sA_R, sL_N, sL_A, sL_L, sL_R, sR_N, sR_A, sR_L, sR_R, reduceIte, rnX_3, rnX_5]
      refine aw_aload_0 hX dX0_readSpan_49 ?_
      refine ag_X0_items hX fl_X0_28 dX0_readSpan_50 ?_
      try simp +decide only [sN_N, sN_A, sN_L, sN_R, sA_N, sA_A, sA_L, sA_R, sL_N, sL_A, sL_L, sL_R, sR_N, sR_A, sR_L, sR_R, reduceIte, rnX_3, rnX_5]
      refine aw_aload_0 hX dX0_readSpan_53 ?_
      refine ag_X0_from hX fl_X0_37 dX0_readSpan_54 ?_
      try simp +decide only [sN_N, sN_A, sN_L, sN_R, sA_N, sA_A, sA_L, sA_R, sL_N, sL_A, sL_L, sL_R, sR_N, sR_A, sR_L, sR_R, reduceIte, rnX_3, rnX_5]
      refine aw_iast hX dX0_readSpan_57 rfl (fun _ => rfl) (by decide) (by omega) ?_
      refine aw_aload_0 hX dX0_readSpan_58 ?_
      refine aw_dup hX rfl dX0_readSpan_59 ?_
      refine ag_X0_items hX fl_X0_28 dX0_readSpan_60 ?_
      try simp +decide only [sN_N, sN_A, sN_L, sN_R, sA_N, sA_A, sA_L, sA_R, sL_N, sL_A, sL_L, sL_R, sR_N, sR_A, sR_L, sR_R, reduceIte, rnX_3, rnX_5]
      refine aw_iconst hX (v := nI 1) (by decide) dX0_readSpan_63 ?_
      first | with_reducible refine aw_iaddN hX dX0_readSpan_64 ?_ | refine aw_iadd hX dX0_readSpan_64 ?_
      refine ap_X0_items hX fl_X0_28 dX0_readSpan_65 ?_
      refine aw_iconst hX (v := nI 1) (by decide) dX0_readSpan_68 ?_
      refine aw_finI (hR _ _ dX0_readSpan_69) ?_ ?_
      · first | exact bF (by simp [rpX, c_8, c_19]) | exact bT (by simp [rpX, c_8, c_19])
      · simp [rpX, itX, c_8, c_19, rnX_3, rnX_5]
  · skip
    refine aw_iconst hX (v := nI 0) (by decide) dX0_readSpan_11 ?_
    refine aw_finI (hR _ _ dX0_readSpan_12) ?_ ?_
    · first | exact bF (by simp [rpX, c_8]) | exact bT (by simp [rpX, c_8])
    · simp [rpX, itX, c_8, rnX_3, rnX_5]
set_option maxHeartbeats 4000000 in
set_option maxRecDepth 100000 in
theorem m_X0_readStep_32 (d : Nat) (G : GT) (S : St) (h2 : S.1 2 ≤ 60) (h4 : S.1 4 ≤ 59) (h3 : S.1 3 < 30) (hn : (rnX S 0 500).1 = true → (rnX S 0 500).2.2.2.2 0 = nI (tn ((rnX S 0 500).2.2.2.2 0))) : rX0_readStep G (d + 4) [.ref (gad G 1), .int (nI 32)] S (some (.int (bI (true)))) (sN S 4 (S.1 4 + 1)) := by
  refine runs_Z (d := (d + 3)) (by decide) (Nat.le_of_ble_eq_true rfl) (fun X (hX : XC X G (d + 3) RX0 cX0_readStep 2) hR => ?_)
  show AW X G 0 [.ref (gad G 1), .int (nI 32)] [] S
  refine aw_iload_1 hX dX0_readStep_0 ?_
  refine aw_lookup hX (x := nI 32) (off := 51) (tgt := 52) dX0_readStep_1 (by decide) (by decide) (by decide) ?_
  refine aw_aload_0 hX dX0_readStep_52 ?_
  refine aw_dup hX rfl dX0_readStep_53 ?_
  refine ag_X0_place hX fl_X0_31 dX0_readStep_54 ?_
  refine aw_iconst hX (v := nI 1) (by decide) dX0_readStep_57 ?_
  first | with_reducible refine aw_iaddN hX dX0_readStep_58 ?_ | refine aw_iadd hX dX0_readStep_58 ?_
  refine ap_X0_place hX fl_X0_31 dX0_readStep_59 ?_
  refine aw_iconst hX (v := nI 1) (by decide) dX0_readStep_62 ?_
  refine aw_finI (hR _ _ dX0_readStep_63) ?_ ?_
  · first | rfl | exact bT rfl
  · rfl
set_option maxHeartbeats 4000000 in
set_option maxRecDepth 100000 in
theorem m_X0_readStep_64 (d : Nat) (G : GT) (S : St) (h2 : S.1 2 ≤ 60) (h4 : S.1 4 ≤ 59) (h3 : S.1 3 < 30) (hn : (rnX S 0 500).1 = true → (rnX S 0 500).2.2.2.2 0 = nI (tn ((rnX S 0 500).2.2.2.2 0))) : rX0_readStep G (d + 4) [.ref (gad G 1), .int (nI 64)] S (some (.int (bI ((rfX S).1)))) (rfX S).2 := by
  refine runs_Z (d := (d + 3)) (by decide) (Nat.le_of_ble_eq_true rfl) (fun X (hX : XC X G (d + 3) RX0 cX0_readStep 2) hR => ?_)
  show AW X G 0 [.ref (gad G 1), .int (nI 64)] [] S
  refine aw_iload_1 hX dX0_readStep_0 ?_
  refine aw_lookup hX (x := nI 64) (off := 63) (tgt := 64) dX0_readStep_1 (by decide) (by decide) (by decide) ?_
  refine aw_aload_0 hX dX0_readStep_64 ?_
  refine cv_X0_readFrom hX ml_X0_44 dX0_readStep_65 (m_X0_readFrom _ G S h2 h4 hn) (Nat.le_of_ble_eq_true rfl) ?_
  refine aw_finI (hR _ _ dX0_readStep_68) ?_ ?_
  · first | rfl | exact bT rfl
  · rfl
set_option maxHeartbeats 4000000 in
set_option maxRecDepth 100000 in
theorem m_X0_readStep_99 (d : Nat) (G : GT) (S : St) (h2 : S.1 2 ≤ 60) (h4 : S.1 4 ≤ 59) (h3 : S.1 3 < 30) (hn : (rnX S 0 500).1 = true → (rnX S 0 500).2.2.2.2 0 = nI (tn ((rnX S 0 500).2.2.2.2 0))) : rX0_readStep G (d + 4) [.ref (gad G 1), .int (nI 99)] S (some (.int (bI ((rpX S 2).1)))) (rpX S 2).2 := by
  refine runs_Z (d := (d + 3)) (by decide) (Nat.le_of_ble_eq_true rfl) (fun X (hX : XC X G (d + 3) RX0 cX0_readStep 2) hR => ?_)
  show AW X G 0 [.ref (gad G 1), .int (nI 99)] [] S
  refine aw_iload_1 hX dX0_readStep_0 ?_
  refine aw_lookup hX (x := nI 99) (off := 80) (tgt := 81) dX0_readStep_1 (by decide) (by decide) (by decide) ?_
  refine aw_aload_0 hX dX0_readStep_81 ?_
  refine aw_iconst hX (v := nI 2) (by decide) dX0_readStep_82 ?_
  refine cv_X0_readSpan hX ml_X0_48 dX0_readStep_83 (m_X0_readSpan _ G S 2 h2 h4 h3) (Nat.le_of_ble_eq_true rfl) ?_
  refine aw_finI (hR _ _ dX0_readStep_86) ?_ ?_
  · first | rfl | exact bT rfl
  · rfl
set_option maxHeartbeats 4000000 in
set_option maxRecDepth 100000 in
theorem m_X0_readStep_103 (d : Nat) (G : GT) (S : St) (h2 : S.1 2 ≤ 60) (h4 : S.1 4 ≤ 59) (h3 : S.1 3 < 30) (hn : (rnX S 0 500).1 = true → (rnX S 0 500).2.2.2.2 0 = nI (tn ((rnX S 0 500).2.2.2.2 0))) : rX0_readStep G (d + 4) [.ref (gad G 1), .int (nI 103)] S (some (.int (bI ((rpX S 0).1)))) (rpX S 0).2 := by
  refine runs_Z (d := (d + 3)) (by decide) (Nat.le_of_ble_eq_true rfl) (fun X (hX : XC X G (d + 3) RX0 cX0_readStep 2) hR => ?_)
  show AW X G 0 [.ref (gad G 1), .int (nI 103)] [] S
  refine aw_iload_1 hX dX0_readStep_0 ?_
  refine aw_lookup hX (x := nI 103) (off := 68) (tgt := 69) dX0_readStep_1 (by decide) (by decide) (by decide) ?_
  refine aw_aload_0 hX dX0_readStep_69 ?_
  refine aw_iconst hX (v := nI 0) (by decide) dX0_readStep_70 ?_
  refine cv_X0_readSpan hX ml_X0_48 dX0_readStep_71 (m_X0_readSpan _ G S 0 h2 h4 h3) (Nat.le_of_ble_eq_true rfl) ?_
  refine aw_finI (hR _ _ dX0_readStep_74) ?_ ?_
  · first | rfl | exact bT rfl
  · rfl
set_option maxHeartbeats 4000000 in
set_option maxRecDepth 100000 in
theorem m_X0_readStep_119 (d : Nat) (G : GT) (S : St) (h2 : S.1 2 ≤ 60) (h4 : S.1 4 ≤ 59) (h3 : S.1 3 < 30) (hn : (rnX S 0 500).1 = true → (rnX S 0 500).2.2.2.2 0 = nI (tn ((rnX S 0 500).2.2.2.2 0))) : rX0_readStep G (d + 4) [.ref (gad G 1), .int (nI 119)] S (some (.int (bI ((rpX S 1).1)))) (rpX S 1).2 := by
  refine runs_Z (d := (d + 3)) (by decide) (Nat.le_of_ble_eq_true rfl) (fun X (hX : XC X G (d + 3) RX0 cX0_readStep 2) hR => ?_)
  show AW X G 0 [.ref (gad G 1), .int (nI 119)] [] S
  refine aw_iload_1 hX dX0_readStep_0 ?_
  refine aw_lookup hX (x := nI 119) (off := 74) (tgt := 75) dX0_readStep_1 (by decide) (by decide) (by decide) ?_
  refine aw_aload_0 hX dX0_readStep_75 ?_
  refine aw_iconst hX (v := nI 1) (by decide) dX0_readStep_76 ?_
  refine cv_X0_readSpan hX ml_X0_48 dX0_readStep_77 (m_X0_readSpan _ G S 1 h2 h4 h3) (Nat.le_of_ble_eq_true rfl) ?_
  refine aw_finI (hR _ _ dX0_readStep_80) ?_ ?_
  · first | rfl | exact bT rfl
  · rfl
set_option maxHeartbeats 4000000 in
set_option maxRecDepth 100000 in
theorem m_X0_readStep_d (d : Nat) (G : GT) (S : St) (x : Int32) (e1 : ¬ x = nI 32) (e2 : ¬ x = nI 64) (e3 : ¬ x = nI 99) (e4 : ¬ x = nI 103) (e5 : ¬ x = nI 119) : rX0_readStep G (d + 4) [.ref (gad G 1), .int x] S (some (.int (bI (false)))) S := by
  refine runs_Z (d := (d + 3)) (by decide) (Nat.le_of_ble_eq_true rfl) (fun X (hX : XC X G (d + 3) RX0 cX0_readStep 2) hR => ?_)
  show AW X G 0 [.ref (gad G 1), .int x] [] S
  refine aw_iload_1 hX dX0_readStep_0 ?_
  refine aw_lookup hX (off := 86) (tgt := 87) dX0_readStep_1 (by decide) ((lv_osw e1 (by decide)).trans ((lv_osw e2 (by decide)).trans ((lv_osw e3 (by decide)).trans ((lv_osw e4 (by decide)).trans ((lv_osw e5 (by decide)).trans rfl))))) (by decide) ?_
  refine aw_iconst hX (v := nI 0) (by decide) dX0_readStep_87 ?_
  refine aw_finI (hR _ _ dX0_readStep_88) ?_ ?_
  · exact bF rfl
  · rfl
theorem m_X0_readStep (d : Nat) (G : GT) (S : St) (x : Int32) (h2 : S.1 2 ≤ 60) (h4 : S.1 4 ≤ 59) (h3 : S.1 3 < 30) (hn : (rnX S 0 500).1 = true → (rnX S 0 500).2.2.2.2 0 = nI (tn ((rnX S 0 500).2.2.2.2 0))) : rX0_readStep G (d + 4) [.ref (gad G 1), .int x] S (some (.int (bI (rsX S x).1))) (rsX S x).2 := by
  by_cases e1 : x = nI 32
  · subst e1; exact m_X0_readStep_32 d G S h2 h4 h3 hn
  by_cases e2 : x = nI 64
  · subst e2; exact m_X0_readStep_64 d G S h2 h4 h3 hn
  by_cases e3 : x = nI 99
  · subst e3; exact m_X0_readStep_99 d G S h2 h4 h3 hn
  by_cases e4 : x = nI 103
  · subst e4; exact m_X0_readStep_103 d G S h2 h4 h3 hn
  by_cases e5 : x = nI 119
  · subst e5; exact m_X0_readStep_119 d G S h2 h4 h3 hn
  have e : rsX S x = (false, S) := by simp only [rsX, if_neg e1, if_neg e2, if_neg e3, if_neg e4, if_neg e5]
  rw [e]
  exact m_X0_readStep_d d G S x e1 e2 e3 e4 e5
/-- what holds while THE DRAFT is read -/
def OkP (S : St) : Prop := S.1 2 ≤ 60 ∧ S.1 4 ≤ S.1 2 ∧ 2 * S.1 3 ≤ S.1 4 ∧ ∀ i, S.2.1 10 i = nI (tn (S.2.1 10 i)) ∧ tn (S.2.1 10 i) < 256
set_option maxHeartbeats 4000000 in
set_option maxRecDepth 100000 in
theorem m_X0_readItems (d : Nat) (G : GT) (S : St) (hok : OkP (sN (sN (sN S 3 0) 4 0) 5 0)) (hq : ∀ S1 : St, OkP S1 → S1.1 4 < S1.1 2 → ((rnX S1 0 500).1 = true → (rnX S1 0 500).2.2.2.2 0 = nI (tn ((rnX S1 0 500).2.2.2.2 0))) ∧ ((rsX S1 (S1.2.1 10 (S1.1 4))).1 = true → OkP (rsX S1 (S1.2.1 10 (S1.1 4))).2 ∧ S1.1 4 < (rsX S1 (S1.2.1 10 (S1.1 4))).2.1 4)) : rX0_readItems G (d + 5) [.ref (gad G 1)] S (some (.int ((riX 60 (sN (sN (sN S 3 0) 4 0) 5 0)).1))) (riX 60 (sN (sN (sN S 3 0) 4 0) 5 0)).2 := by
  refine runs_I (d := (d + 4)) (by decide) (Nat.le_of_ble_eq_true rfl) (fun X (hX : XC X G (d + 4) RX0 cX0_readItems 2) hR => ?_)
  show AW X G 0 [.ref (gad G 1), .null] [] S
  have loop : ∀ (k : Nat) (i : Nat) (S1 : St), i + k = 60 → i ≤ S1.1 4 → OkP S1 → riX k S1 = riX 60 (sN (sN (sN S 3 0) 4 0) 5 0) → AW X G 17 [.ref (gad G 1), .int (nI i)] [] S1 := by
    intro k
    induction k with
    | zero =>
      intro i S1 hi h4 hok hp
      have h2 := hok.1
      have h24 := hok.2.1
      refine aw_iload_1 hX dX0_readItems_17 ?_
      refine aw_bipush hX (v := nI 60) (by decide) dX0_readItems_18 ?_
      first | with_reducible refine aw_icmpgeN hX (tgt := 61) dX0_readItems_20 (by decide) (by omega) (by omega) (fun c_20 => ?_) (fun c_20 => ?_) | refine aw_jge hX (tgt := 61) dX0_readItems_20 (by decide) (fun c_20 => ?_) (fun c_20 => ?_)
      · skip
        refine aw_bipush hX (v := (-9)) (by decide) dX0_readItems_61 ?_
        refine aw_finI (hR _ _ dX0_readItems_63) ?_ ?_
        · rw [← hp]; first | rfl | (simp [riX, c_20]; done)
        · rw [← hp]; first | rfl | (simp [riX, c_20]; done)
      · exact absurd c_20 (by omega)
    | succ n ih =>
      intro i S1 hi h4 hok hp
      have h2 := hok.1
      have h24 := hok.2.1
      have h34 := hok.2.2.1
      refine aw_iload_1 hX dX0_readItems_17 ?_
      refine aw_bipush hX (v := nI 60) (by decide) dX0_readItems_18 ?_
      first | with_reducible refine aw_icmpgeN hX (tgt := 61) dX0_readItems_20 (by decide) (by omega) (by omega) (fun c_20 => ?_) (fun c_20 => ?_) | refine aw_jge hX (tgt := 61) dX0_readItems_20 (by decide) (fun c_20 => ?_) (fun c_20 => ?_)
      · exact absurd c_20 (by omega)
      · skip
        refine aw_aload_0 hX dX0_readItems_23 ?_
        refine ag_X0_place hX fl_X0_31 dX0_readItems_24 ?_
        refine aw_aload_0 hX dX0_readItems_27 ?_
        refine ag_X0_size hX fl_X0_15 dX0_readItems_28 ?_
        first | with_reducible refine aw_icmpgeN hX (tgt := 61) dX0_readItems_31 (by decide) (by omega) (by omega) (fun c_31 => ?_) (fun c_31 => ?_) | refine aw_jge hX (tgt := 61) dX0_readItems_31 (by decide) (fun c_31 => ?_) (fun c_31 => ?_)
        · skip
          refine aw_bipush hX (v := (-9)) (by decide) dX0_readItems_61 ?_
          refine aw_finI (hR _ _ dX0_readItems_63) ?_ ?_
          · rw [← hp]; first | (simp [riX, c_20, c_31]; done) | (simp [riX, show ¬ S1.1 2 ≤ S1.1 4 by omega, c_20, c_31]; done)
          · rw [← hp]; first | (simp [riX, c_20, c_31]; done) | (simp [riX, show ¬ S1.1 2 ≤ S1.1 4 by omega, c_20, c_31]; done)
        · have hh := hq S1 hok c_31
          refine aw_aload_0 hX dX0_readItems_34 ?_
          refine aw_aload_0 hX dX0_readItems_35 ?_
          refine ag_X0_bytes hX fl_X0_11 dX0_readItems_36 ?_
          refine aw_aload_0 hX dX0_readItems_39 ?_
          refine ag_X0_place hX fl_X0_31 dX0_readItems_40 ?_
          refine aw_iald hX dX0_readItems_43 rfl (by decide) (by omega) ?_
          refine cv_X0_readStep hX ml_X0_40 dX0_readItems_44 (m_X0_readStep _ G S1 _ hok.1 (by omega) (by omega) hh.1) (Nat.le_of_ble_eq_true rfl) ?_
          first | with_reducible refine aw_ifneB hX (tgt := 55) dX0_readItems_47 (by decide) (fun c_47 => ?_) (fun c_47 => ?_) | refine aw_ifne hX (tgt := 55) dX0_readItems_47 (by decide) (fun c_47 => ?_) (fun c_47 => ?_)
          · have ha := hh.2 c_47
            first | with_reducible refine aw_iinc_1N hX rfl (by decide) dX0_readItems_55 ?_ | refine aw_iinc_1 hX rfl (by decide) dX0_readItems_55 ?_
            refine aw_goto hX (tgt := 17) dX0_readItems_58 (by decide) ?_
            exact ih (i + 1) _ (by omega) (by omega) ha.1 (by rw [← hp]; simp [riX, show ¬ S1.1 2 ≤ S1.1 4 by omega, c_20, c_31, c_47])
          · skip
            refine aw_aload_0 hX dX0_readItems_50 ?_
            refine ag_X0_place hX fl_X0_31 dX0_readItems_51 ?_
            refine aw_finI (hR _ _ dX0_readItems_54) ?_ ?_
            · rw [← hp]; first | (simp [riX, c_20, c_31, c_47]; done) | (simp [riX, show ¬ S1.1 2 ≤ S1.1 4 by omega, c_20, c_31, c_47]; done)
            · rw [← hp]; first | (simp [riX, c_20, c_31, c_47]; done) | (simp [riX, show ¬ S1.1 2 ≤ S1.1 4 by omega, c_20, c_31, c_47]; done)
  refine aw_aload_0 hX dX0_readItems_0 ?_
  refine aw_iconst hX (v := nI 0) (by decide) dX0_readItems_1 ?_
  refine ap_X0_items hX fl_X0_28 dX0_readItems_2 ?_
  refine aw_aload_0 hX dX0_readItems_5 ?_
  refine aw_iconst hX (v := nI 0) (by decide) dX0_readItems_6 ?_
  refine ap_X0_place hX fl_X0_31 dX0_readItems_7 ?_
  refine aw_aload_0 hX dX0_readItems_10 ?_
  refine aw_iconst hX (v := nI 0) (by decide) dX0_readItems_11 ?_
  refine ap_X0_from hX fl_X0_37 dX0_readItems_12 ?_
  refine aw_iconst hX (v := nI 0) (by decide) dX0_readItems_15 ?_
  refine aw_istore_1 hX rfl (by decide) dX0_readItems_16 ?_
  exact loop 60 0 _ (by omega) (Nat.zero_le _) hok rfl
