def StOK (nl : Nat) (st : Nat → Int32) : Prop := (∀ k, k ≤ nl → st k = nI (tn (st k)) ∧ tn (st k) ≤ 30 * k) ∧ ∀ k, k < nl → tn (st k) ≤ tn (st (k + 1))
theorem infL_lt {td : Nat → Int32} {day : Int32} : ∀ {n k : Nat}, infL td day n = some k → k < n
  | 0, k, h => by cases h
  | n + 1, k, h => by
    unfold infL at h
    split at h
    · cases h; exact Nat.lt_succ_self _
    · exact Nat.lt_succ_of_lt (infL_lt h)
theorem laL_lt {fl dy : Nat → Int32} {f day : Int32} : ∀ {n k : Nat}, laL fl dy f day n = some k → k < n
  | 0, k, h => by cases h
  | n + 1, k, h => by
    unfold laL at h
    split at h
    · cases h; exact Nat.lt_succ_self _
    · exact Nat.lt_succ_of_lt (laL_lt h)
theorem ne9 {k : Nat} (h : k < 2 ^ 31) : ¬ nI k = -9 := by
  intro e
  have h1 := congrArg Int32.toInt e
  rw [nI_toInt h] at h1
  have : (-9 : Int32).toInt = -9 := by decide
  omega
theorem toInt_ge (x : Int32) : -2147483648 ≤ x.toInt ∧ x.toInt < 2147483648 := ⟨Int32.le_toInt x, Int32.toInt_lt x⟩
theorem sm1 {n : Nat} (h : n < 2 ^ 30) : ¬ nI n ≤ nI n - nI 1 := by
  rw [Int32.le_iff_toInt_le, pk_sub_toInt h (by decide), nI_toInt (by omega)]
  omega
theorem spO_none {nl : Nat} {td st ff sp fr : Nat → Int32} {fuel day : Int32} (h : infL td day nl = none) : spO nl td st ff sp fr fuel day = nI 100 := by simp [spO, h]
theorem spO_some {nl k : Nat} {td st ff sp fr : Nat → Int32} {fuel day : Int32} (h : infL td day nl = some k) : spO nl td st ff sp fr fuel day = spL ff sp fr fuel day (tn (st k)) (tn (st (k + 1)) - tn (st k)) := by simp [spO, h]
set_option maxHeartbeats 4000000 in
set_option maxRecDepth 100000 in
theorem m_X3_spanOn (d : Nat) (G : GT) (S : St) (fuel day : Int32) (hs : S.1 6 ≤ 6) (hst : StOK (S.1 6) (S.2.1 15)) : rX3_spanOn G (d + 2) [.ref (gad G 2), .int fuel, .int day] S (some (.int (spO (S.1 6) (S.2.1 14) (S.2.1 15) (S.2.1 16) (S.2.1 17) (S.2.1 18) fuel day))) S := by
  refine runs_I (d := (d + 1)) (by decide) (Nat.le_of_ble_eq_true rfl) (fun X (hX : XC X G (d + 1) RX3 cX3_spanOn 5) hR => ?_)
  show AW X G 0 [.ref (gad G 2), .int fuel, .int day, .null, .null] [] S
  refine aw_aload_0 hX dX3_spanOn_0 ?_
  refine aw_iload_2 hX dX3_spanOn_1 ?_
  refine cv_X3_inForce hX ml_X3_39 dX3_spanOn_2 (m_X3_inForce d G S _ hs) (Nat.le_of_ble_eq_true rfl) ?_
  cases hinf : infL (S.2.1 14) day (S.1 6) with
  | none =>
    simp only [oN]
    refine aw_istore_3 hX rfl (by decide) dX3_spanOn_5 ?_
    refine aw_iload_3 hX dX3_spanOn_6 ?_
    refine aw_bipush hX (v := (-9)) (by decide) dX3_spanOn_7 ?_
    first | with_reducible refine aw_icmpneN hX (tgt := 15) dX3_spanOn_9 (by decide) (by omega) (by omega) (fun c_9 => ?_) (fun c_9 => ?_) | refine aw_icmpne hX (tgt := 15) dX3_spanOn_9 (by decide) (fun c_9 => ?_) (fun c_9 => ?_)
    · exact absurd rfl c_9
    · skip
      refine aw_bipush hX (v := nI 100) (by decide) dX3_spanOn_12 ?_
      refine aw_finI (hR _ _ dX3_spanOn_14) ?_ ?_
      · rw [spO_none hinf]
      · rfl
  | some k =>
    have hk := infL_lt hinf
    have hlo := hst.1 k (by omega)
    have hhi := hst.1 (k + 1) (by omega)
    have hlh := hst.2 k hk
    simp only [oN]
    have loop : ∀ n : Nat, tn (S.2.1 15 k) + n ≤ tn (S.2.1 15 (k + 1)) → spL (S.2.1 16) (S.2.1 17) (S.2.1 18) fuel day (tn (S.2.1 15 k)) n = spL (S.2.1 16) (S.2.1 17) (S.2.1 18) fuel day (tn (S.2.1 15 k)) (tn (S.2.1 15 (k + 1)) - tn (S.2.1 15 k)) → AW X G 27 [.ref (gad G 2), .int fuel, .int day, .int (nI k), .int (nI (tn (S.2.1 15 k) + n) - nI 1)] [] S := by
      intro n
      induction n with
      | zero =>
        intro hn hp
        refine aw_iload_4 hX dX3_spanOn_27 ?_
        refine aw_aload_0 hX dX3_spanOn_29 ?_
        refine ag_X3_start hX fl_X3_15 dX3_spanOn_30 ?_
        refine aw_iload_3 hX dX3_spanOn_33 ?_
        refine aw_iald hX dX3_spanOn_34 rfl (by decide) (by omega) ?_
        refine aw_ti hlo.1 ?_
        refine aw_jlt hX (tgt := 74) dX3_spanOn_35 (by decide) (fun c_35 => ?_) (fun c_35 => ?_)
        · skip
          refine aw_bipush hX (v := nI 100) (by decide) dX3_spanOn_74 ?_
          refine aw_finI (hR _ _ dX3_spanOn_76) ?_ ?_
          · rw [spO_some hinf, ← hp]; rfl
          · rfl
        · exact absurd c_35 (sm1 (by omega))
      | succ n ih =>
        intro hn hp
        rw [show tn (S.2.1 15 k) + (n + 1) = (tn (S.2.1 15 k) + n) + 1 from rfl, np1]
        refine aw_iload_4 hX dX3_spanOn_27 ?_
        refine aw_aload_0 hX dX3_spanOn_29 ?_
        refine ag_X3_start hX fl_X3_15 dX3_spanOn_30 ?_
        refine aw_iload_3 hX dX3_spanOn_33 ?_
        refine aw_iald hX dX3_spanOn_34 rfl (by decide) (by omega) ?_
        refine aw_ti hlo.1 ?_
        first | with_reducible refine aw_icmpltN hX (tgt := 74) dX3_spanOn_35 (by decide) (by omega) (by omega) (fun c_35 => ?_) (fun c_35 => ?_) | refine aw_jlt hX (tgt := 74) dX3_spanOn_35 (by decide) (fun c_35 => ?_) (fun c_35 => ?_)
        · exact absurd c_35 (by omega)
        · skip
          refine aw_aload_0 hX dX3_spanOn_38 ?_
          refine ag_X3_itemFuel hX fl_X3_20 dX3_spanOn_39 ?_
          refine aw_iload_4 hX dX3_spanOn_42 ?_
          refine aw_iald hX dX3_spanOn_44 rfl (by decide) (by omega) ?_
          refine aw_iload_1 hX dX3_spanOn_45 ?_
          first | with_reducible refine aw_icmpneN hX (tgt := 68) dX3_spanOn_46 (by decide) (by omega) (by omega) (fun c_46 => ?_) (fun c_46 => ?_) | refine aw_icmpne hX (tgt := 68) dX3_spanOn_46 (by decide) (fun c_46 => ?_) (fun c_46 => ?_)
          · skip
            refine aw_iinc_4 hX rfl (by decide) dX3_spanOn_68 ?_
            refine aw_goto hX (tgt := 27) dX3_spanOn_71 (by decide) ?_
            rw [nm1]; exact ih (by omega) (by rw [← hp]; simp [spL, c_35, c_46])
          · skip
            refine aw_aload_0 hX dX3_spanOn_49 ?_
            refine ag_X3_itemFrom hX fl_X3_26 dX3_spanOn_50 ?_
            refine aw_iload_4 hX dX3_spanOn_53 ?_
            refine aw_iald hX dX3_spanOn_55 rfl (by decide) (by omega) ?_
            refine aw_iload_2 hX dX3_spanOn_56 ?_
            first | with_reducible refine aw_icmpgtN hX (tgt := 68) dX3_spanOn_57 (by decide) (by omega) (by omega) (fun c_57 => ?_) (fun c_57 => ?_) | refine aw_jgt hX (tgt := 68) dX3_spanOn_57 (by decide) (fun c_57 => ?_) (fun c_57 => ?_)
            · skip
              refine aw_iinc_4 hX rfl (by decide) dX3_spanOn_68 ?_
              refine aw_goto hX (tgt := 27) dX3_spanOn_71 (by decide) ?_
              rw [nm1]; exact ih (by omega) (by rw [← hp]; simp [spL, c_35, c_46, c_57])
            · skip
              refine aw_aload_0 hX dX3_spanOn_60 ?_
              refine ag_X3_itemSpan hX fl_X3_23 dX3_spanOn_61 ?_
              refine aw_iload_4 hX dX3_spanOn_64 ?_
              refine aw_iald hX dX3_spanOn_66 rfl (by decide) (by omega) ?_
              refine aw_finI (hR _ _ dX3_spanOn_67) ?_ ?_
              · rw [spO_some hinf, ← hp]; simp [spL, c_35, c_46, c_57]
              · rfl
    refine aw_istore_3 hX rfl (by decide) dX3_spanOn_5 ?_
    refine aw_iload_3 hX dX3_spanOn_6 ?_
    refine aw_bipush hX (v := (-9)) (by decide) dX3_spanOn_7 ?_
    first | with_reducible refine aw_icmpneN hX (tgt := 15) dX3_spanOn_9 (by decide) (by omega) (by omega) (fun c_9 => ?_) (fun c_9 => ?_) | refine aw_icmpne hX (tgt := 15) dX3_spanOn_9 (by decide) (fun c_9 => ?_) (fun c_9 => ?_)
    · skip
      refine aw_aload_0 hX dX3_spanOn_15 ?_
      refine ag_X3_start hX fl_X3_15 dX3_spanOn_16 ?_
      refine aw_iload_3 hX dX3_spanOn_19 ?_
      refine aw_iconst hX (v := nI 1) (by decide) dX3_spanOn_20 ?_
      first | with_reducible refine aw_iaddN hX dX3_spanOn_21 ?_ | refine aw_iadd hX dX3_spanOn_21 ?_
      refine aw_iald hX dX3_spanOn_22 rfl (by decide) (by omega) ?_
      refine aw_ti hhi.1 ?_
      refine aw_iconst hX (v := nI 1) (by decide) dX3_spanOn_23 ?_
      refine aw_isub hX dX3_spanOn_24 ?_
      refine aw_istore_4 hX rfl (by decide) dX3_spanOn_25 ?_
      have := loop (tn (S.2.1 15 (k + 1)) - tn (S.2.1 15 k)) (by omega) rfl
      rw [show tn (S.2.1 15 k) + (tn (S.2.1 15 (k + 1)) - tn (S.2.1 15 k)) = tn (S.2.1 15 (k + 1)) by omega] at this
      exact this
    · exact absurd c_9 (ne9 (by omega))
set_option maxHeartbeats 4000000 in
set_option maxRecDepth 100000 in
theorem m_X3_firstDue (d : Nat) (G : GT) (S : St) (fuel : Int32) (w : Nat) (hw : w ≤ 500) (hs : S.1 6 ≤ 6) (hst : StOK (S.1 6) (S.2.1 15)) : rX3_firstDue G (d + 3) [.ref (gad G 2), .int fuel, .int (nI w)] S (some (.int (nI (w + fdL (fun j => decide (spO (S.1 6) (S.2.1 14) (S.2.1 15) (S.2.1 16) (S.2.1 17) (S.2.1 18) fuel (nI (w + j)) ≤ nI j)) 199 1)))) S := by
  refine runs_I (d := (d + 2)) (by decide) (Nat.le_of_ble_eq_true rfl) (fun X (hX : XC X G (d + 2) RX3 cX3_firstDue 4) hR => ?_)
  show AW X G 0 [.ref (gad G 2), .int fuel, .int (nI w), .null] [] S
  have loop : ∀ n i : Nat, i + n = 200 → fdL (fun j => decide (spO (S.1 6) (S.2.1 14) (S.2.1 15) (S.2.1 16) (S.2.1 17) (S.2.1 18) fuel (nI (w + j)) ≤ nI j)) n i = fdL (fun j => decide (spO (S.1 6) (S.2.1 14) (S.2.1 15) (S.2.1 16) (S.2.1 17) (S.2.1 18) fuel (nI (w + j)) ≤ nI j)) 199 1 → AW X G 2 [.ref (gad G 2), .int fuel, .int (nI w), .int (nI i)] [] S := by
    intro n
    induction n with
    | zero =>
      intro i hi hp
      refine aw_iload_3 hX dX3_firstDue_2 ?_
      refine aw_sipush hX (v := nI 200) (by decide) dX3_firstDue_3 ?_
      first | with_reducible refine aw_icmpgeN hX (tgt := 31) dX3_firstDue_6 (by decide) (by omega) (by omega) (fun c_6 => ?_) (fun c_6 => ?_) | refine aw_jge hX (tgt := 31) dX3_firstDue_6 (by decide) (fun c_6 => ?_) (fun c_6 => ?_)
      · skip
        refine aw_iload_2 hX dX3_firstDue_31 ?_
        refine aw_sipush hX (v := nI 200) (by decide) dX3_firstDue_32 ?_
        first | with_reducible refine aw_iaddN hX dX3_firstDue_35 ?_ | refine aw_iadd hX dX3_firstDue_35 ?_
        refine aw_finI (hR _ _ dX3_firstDue_36) ?_ ?_
        · rw [← hp, show i = 200 by omega]; rfl
        · rfl
      · exact absurd c_6 (by omega)
    | succ n ih =>
      intro i hi hp
      refine aw_iload_3 hX dX3_firstDue_2 ?_
      refine aw_sipush hX (v := nI 200) (by decide) dX3_firstDue_3 ?_
      first | with_reducible refine aw_icmpgeN hX (tgt := 31) dX3_firstDue_6 (by decide) (by omega) (by omega) (fun c_6 => ?_) (fun c_6 => ?_) | refine aw_jge hX (tgt := 31) dX3_firstDue_6 (by decide) (fun c_6 => ?_) (fun c_6 => ?_)
      · exact absurd c_6 (by omega)
      · skip
        refine aw_iload_3 hX dX3_firstDue_9 ?_
        refine aw_aload_0 hX dX3_firstDue_10 ?_
        refine aw_iload_1 hX dX3_firstDue_11 ?_
        refine aw_iload_2 hX dX3_firstDue_12 ?_
        refine aw_iload_3 hX dX3_firstDue_13 ?_
        first | with_reducible refine aw_iaddN hX dX3_firstDue_14 ?_ | refine aw_iadd hX dX3_firstDue_14 ?_
        refine cv_X3_spanOn hX ml_X3_43 dX3_firstDue_15 (m_X3_spanOn d G S _ _ hs hst) (Nat.le_of_ble_eq_true rfl) ?_
        first | with_reducible refine aw_icmpltN hX (tgt := 25) dX3_firstDue_18 (by decide) (by omega) (by omega) (fun c_18 => ?_) (fun c_18 => ?_) | refine aw_jlt hX (tgt := 25) dX3_firstDue_18 (by decide) (fun c_18 => ?_) (fun c_18 => ?_)
        · skip
          first | with_reducible refine aw_iinc_3N hX rfl (by decide) dX3_firstDue_25 ?_ | refine aw_iinc_3 hX rfl (by decide) dX3_firstDue_25 ?_
          refine aw_goto hX (tgt := 2) dX3_firstDue_28 (by decide) ?_
          exact ih (i + 1) (by omega) (by rw [← hp]; simp [fdL, c_6, c_18])
        · skip
          refine aw_iload_2 hX dX3_firstDue_21 ?_
          refine aw_iload_3 hX dX3_firstDue_22 ?_
          first | with_reducible refine aw_iaddN hX dX3_firstDue_23 ?_ | refine aw_iadd hX dX3_firstDue_23 ?_
          refine aw_finI (hR _ _ dX3_firstDue_24) ?_ ?_
          · rw [← hp]; simp [fdL, c_6, c_18]
          · rfl
  refine aw_iconst hX (v := nI 1) (by decide) dX3_firstDue_0 ?_
  refine aw_istore_3 hX rfl (by decide) dX3_firstDue_1 ?_
  exact loop 199 1 (by omega) rfl
/-- the first n ITEMS of THE DRAFT come to the book, from place e on -/
def cpS (e : Nat) (S : St) : Nat → St
  | 0 => S
  | n + 1 => sA (sA (sA (cpS e S n) 16 (e + n) (S.2.1 11 n)) 17 (e + n) (S.2.1 12 n)) 18 (e + n) (S.2.1 13 n)
theorem cpS_N {e : Nat} {S : St} : ∀ {n : Nat}, (cpS e S n).1 = S.1
  | 0 => rfl
  | n + 1 => cpS_N (n := n)
theorem cpS_A {e : Nat} {S : St} {j : Nat} (h : j < 16 ∨ 18 < j) : ∀ {n : Nat}, (cpS e S n).2.1 j = S.2.1 j
  | 0 => rfl
  | n + 1 => by
    show (sA (sA (sA (cpS e S n) 16 (e + n) (S.2.1 11 n)) 17 (e + n) (S.2.1 12 n)) 18 (e + n) (S.2.1 13 n)).2.1 j = S.2.1 j
    rw [sA_A, if_neg (by omega), sA_A, if_neg (by omega), sA_A, if_neg (by omega)]
    exact cpS_A h
theorem cpS_11 {e n : Nat} {S : St} : (cpS e S n).2.1 11 = S.2.1 11 := cpS_A (by omega)
theorem cpS_12 {e n : Nat} {S : St} : (cpS e S n).2.1 12 = S.2.1 12 := cpS_A (by omega)
theorem cpS_13 {e n : Nat} {S : St} : (cpS e S n).2.1 13 = S.2.1 13 := cpS_A (by omega)
theorem cpS_14 {e n : Nat} {S : St} : (cpS e S n).2.1 14 = S.2.1 14 := cpS_A (by omega)
theorem cpS_15 {e n : Nat} {S : St} : (cpS e S n).2.1 15 = S.2.1 15 := cpS_A (by omega)
set_option maxHeartbeats 4000000 in
set_option maxRecDepth 100000 in
theorem m_X3_add (d : Nat) (G : GT) (S : St) (e t : Nat) (he : S.2.1 15 (S.1 6) = nI e) (hs : S.1 6 < 6) (hn : S.1 3 ≤ 30) (hen : e + S.1 3 ≤ 180) : rX3_add G (d + 1) [.ref (gad G 2), .ref (gad G 1), .int (nI t)] S (some (.int (nI (S.1 6)))) (sA (sN (sA (cpS e S (S.1 3)) 14 (S.1 6) (nI t)) 6 (S.1 6 + 1)) 15 (S.1 6 + 1) (nI (e + S.1 3))) := by
  refine runs_I (d := d) (by decide) (Nat.le_of_ble_eq_true rfl) (fun X (hX : XC X G d RX3 cX3_add 5) hR => ?_)
  show AW X G 0 [.ref (gad G 2), .ref (gad G 1), .int (nI t), .null, .null] [] S
  have loop : ∀ n i : Nat, i + n = S.1 3 → AW X G 13 [.ref (gad G 2), .ref (gad G 1), .int (nI t), .int (nI (e + i)), .int (nI i)] [] (cpS e S i) := by
    intro n
    induction n with
    | zero =>
      intro i hi
      obtain rfl : i = S.1 3 := by omega
      refine aw_iload_4 hX dX3_add_13 ?_
      refine aw_aload_1 hX dX3_add_15 ?_
      refine ag_X0_items hX fl_X3_33 dX3_add_16 ?_
      try simp only [sN_N, sN_A, sN_L, sN_R, sA_N, sA_A, sA_L, sA_R, sL_N, sL_A, sL_L, sL_R, sR_N, sR_A, sR_L, sR_R, reduceIte, cpS_N, cpS_11, cpS_12, cpS_13]
      first | with_reducible refine aw_icmpgeN hX (tgt := 79) dX3_add_19 (by decide) (by omega) (by omega) (fun c_19 => ?_) (fun c_19 => ?_) | refine aw_jge hX (tgt := 79) dX3_add_19 (by decide) (fun c_19 => ?_) (fun c_19 => ?_)
      · skip
        refine aw_aload_0 hX dX3_add_79 ?_
        refine ag_X3_told hX fl_X3_11 dX3_add_80 ?_
        try simp only [sN_N, sN_A, sN_L, sN_R, sA_N, sA_A, sA_L, sA_R, sL_N, sL_A, sL_L, sL_R, sR_N, sR_A, sR_L, sR_R, reduceIte, cpS_N, cpS_11, cpS_12, cpS_13]
        refine aw_aload_0 hX dX3_add_83 ?_
        refine ag_X3_size hX fl_X3_29 dX3_add_84 ?_
        try simp only [sN_N, sN_A, sN_L, sN_R, sA_N, sA_A, sA_L, sA_R, sL_N, sL_A, sL_L, sL_R, sR_N, sR_A, sR_L, sR_R, reduceIte, cpS_N, cpS_11, cpS_12, cpS_13]
        refine aw_iload_2 hX dX3_add_87 ?_
        refine aw_iast hX dX3_add_88 rfl (fun _ => rfl) (by decide) (by omega) ?_
        refine aw_aload_0 hX dX3_add_89 ?_
        refine aw_dup hX rfl dX3_add_90 ?_
        refine ag_X3_size hX fl_X3_29 dX3_add_91 ?_
        try simp only [sN_N, sN_A, sN_L, sN_R, sA_N, sA_A, sA_L, sA_R, sL_N, sL_A, sL_L, sL_R, sR_N, sR_A, sR_L, sR_R, reduceIte, cpS_N, cpS_11, cpS_12, cpS_13]
        refine aw_iconst hX (v := nI 1) (by decide) dX3_add_94 ?_
        first | with_reducible refine aw_iaddN hX dX3_add_95 ?_ | refine aw_iadd hX dX3_add_95 ?_
        refine ap_X3_size hX fl_X3_29 dX3_add_96 ?_
        refine aw_aload_0 hX dX3_add_99 ?_
        refine ag_X3_start hX fl_X3_15 dX3_add_100 ?_
        try simp only [sN_N, sN_A, sN_L, sN_R, sA_N, sA_A, sA_L, sA_R, sL_N, sL_A, sL_L, sL_R, sR_N, sR_A, sR_L, sR_R, reduceIte, cpS_N, cpS_11, cpS_12, cpS_13]
        refine aw_aload_0 hX dX3_add_103 ?_
        refine ag_X3_size hX fl_X3_29 dX3_add_104 ?_
        try simp only [sN_N, sN_A, sN_L, sN_R, sA_N, sA_A, sA_L, sA_R, sL_N, sL_A, sL_L, sL_R, sR_N, sR_A, sR_L, sR_R, reduceIte, cpS_N, cpS_11, cpS_12, cpS_13]
        refine aw_iload_3 hX dX3_add_107 ?_
        refine aw_iast hX dX3_add_108 rfl (fun _ => rfl) (by decide) (by omega) ?_
        refine aw_aload_0 hX dX3_add_109 ?_
        refine ag_X3_size hX fl_X3_29 dX3_add_110 ?_
        try simp only [sN_N, sN_A, sN_L, sN_R, sA_N, sA_A, sA_L, sA_R, sL_N, sL_A, sL_L, sL_R, sR_N, sR_A, sR_L, sR_R, reduceIte, cpS_N, cpS_11, cpS_12, cpS_13]
        refine aw_iconst hX (v := nI 1) (by decide) dX3_add_113 ?_
        first | with_reducible refine aw_isubN hX (by omega) dX3_add_114 ?_ | refine aw_isub hX dX3_add_114 ?_
        refine aw_finI (hR _ _ dX3_add_115) ?_ ?_
        · first | rfl | simp
        · rfl
      · exact absurd c_19 (by omega)
    | succ n ih =>
      intro i hi
      refine aw_iload_4 hX dX3_add_13 ?_
      refine aw_aload_1 hX dX3_add_15 ?_
      refine ag_X0_items hX fl_X3_33 dX3_add_16 ?_
      try simp only [sN_N, sN_A, sN_L, sN_R, sA_N, sA_A, sA_L, sA_R, sL_N, sL_A, sL_L, sL_R, sR_N, sR_A, sR_L, sR_R, reduceIte, cpS_N, cpS_11, cpS_12, cpS_13]
      first | with_reducible refine aw_icmpgeN hX (tgt := 79) dX3_add_19 (by decide) (by omega) (by omega) (fun c_19 => ?_) (fun c_19 => ?_) | refine aw_jge hX (tgt := 79) dX3_add_19 (by decide) (fun c_19 => ?_) (fun c_19 => ?_)
      · exact absurd c_19 (by omega)
      · skip
        refine aw_iload_3 hX dX3_add_22 ?_
        refine aw_aload_0 hX dX3_add_23 ?_
        refine ag_X3_itemFuel hX fl_X3_20 dX3_add_24 ?_
        try simp only [sN_N, sN_A, sN_L, sN_R, sA_N, sA_A, sA_L, sA_R, sL_N, sL_A, sL_L, sL_R, sR_N, sR_A, sR_L, sR_R, reduceIte, cpS_N, cpS_11, cpS_12, cpS_13]
        refine aw_alen hX dX3_add_27 rfl ?_
        first | with_reducible refine aw_icmpgeN hX (tgt := 79) dX3_add_28 (by decide) (by omega) (by omega) (fun c_28 => ?_) (fun c_28 => ?_) | refine aw_jge hX (tgt := 79) dX3_add_28 (by decide) (fun c_28 => ?_) (fun c_28 => ?_)
        · exact absurd c_28 (by omega)
        · skip
          refine aw_aload_0 hX dX3_add_31 ?_
          refine ag_X3_itemFuel hX fl_X3_20 dX3_add_32 ?_
          try simp only [sN_N, sN_A, sN_L, sN_R, sA_N, sA_A, sA_L, sA_R, sL_N, sL_A, sL_L, sL_R, sR_N, sR_A, sR_L, sR_R, reduceIte, cpS_N, cpS_11, cpS_12, cpS_13]
          refine aw_iload_3 hX dX3_add_35 ?_
          refine aw_aload_1 hX dX3_add_36 ?_
          refine ag_X0_itemFuel hX fl_X3_36 dX3_add_37 ?_
          try simp only [sN_N, sN_A, sN_L, sN_R, sA_N, sA_A, sA_L, sA_R, sL_N, sL_A, sL_L, sL_R, sR_N, sR_A, sR_L, sR_R, reduceIte, cpS_N, cpS_11, cpS_12, cpS_13]
          refine aw_iload_4 hX dX3_add_40 ?_
          refine aw_iald hX dX3_add_42 rfl (by decide) (by omega) ?_
          try simp only [sN_N, sN_A, sN_L, sN_R, sA_N, sA_A, sA_L, sA_R, sL_N, sL_A, sL_L, sL_R, sR_N, sR_A, sR_L, sR_R, reduceIte, cpS_N, cpS_11, cpS_12, cpS_13]
          refine aw_iast hX dX3_add_43 rfl (fun _ => rfl) (by decide) (by omega) ?_
          refine aw_aload_0 hX dX3_add_44 ?_
          refine ag_X3_itemSpan hX fl_X3_23 dX3_add_45 ?_
          try simp only [sN_N, sN_A, sN_L, sN_R, sA_N, sA_A, sA_L, sA_R, sL_N, sL_A, sL_L, sL_R, sR_N, sR_A, sR_L, sR_R, reduceIte, cpS_N, cpS_11, cpS_12, cpS_13]
          refine aw_iload_3 hX dX3_add_48 ?_
          refine aw_aload_1 hX dX3_add_49 ?_
          refine ag_X0_itemSpan hX fl_X3_37 dX3_add_50 ?_
          try simp only [sN_N, sN_A, sN_L, sN_R, sA_N, sA_A, sA_L, sA_R, sL_N, sL_A, sL_L, sL_R, sR_N, sR_A, sR_L, sR_R, reduceIte, cpS_N, cpS_11, cpS_12, cpS_13]
          refine aw_iload_4 hX dX3_add_53 ?_
          refine aw_iald hX dX3_add_55 rfl (by decide) (by omega) ?_
          try simp only [sN_N, sN_A, sN_L, sN_R, sA_N, sA_A, sA_L, sA_R, sL_N, sL_A, sL_L, sL_R, sR_N, sR_A, sR_L, sR_R, reduceIte, cpS_N, cpS_11, cpS_12, cpS_13]
          refine aw_iast hX dX3_add_56 rfl (fun _ => rfl) (by decide) (by omega) ?_
          refine aw_aload_0 hX dX3_add_57 ?_
          refine ag_X3_itemFrom hX fl_X3_26 dX3_add_58 ?_
          try simp only [sN_N, sN_A, sN_L, sN_R, sA_N, sA_A, sA_L, sA_R, sL_N, sL_A, sL_L, sL_R, sR_N, sR_A, sR_L, sR_R, reduceIte, cpS_N, cpS_11, cpS_12, cpS_13]
          refine aw_iload_3 hX dX3_add_61 ?_
          refine aw_aload_1 hX dX3_add_62 ?_
          refine ag_X0_itemFrom hX fl_X3_38 dX3_add_63 ?_
          try simp only [sN_N, sN_A, sN_L, sN_R, sA_N, sA_A, sA_L, sA_R, sL_N, sL_A, sL_L, sL_R, sR_N, sR_A, sR_L, sR_R, reduceIte, cpS_N, cpS_11, cpS_12, cpS_13]
          refine aw_iload_4 hX dX3_add_66 ?_
          refine aw_iald hX dX3_add_68 rfl (by decide) (by omega) ?_
          try simp only [sN_N, sN_A, sN_L, sN_R, sA_N, sA_A, sA_L, sA_R, sL_N, sL_A, sL_L, sL_R, sR_N, sR_A, sR_L, sR_R, reduceIte, cpS_N, cpS_11, cpS_12, cpS_13]
          refine aw_iast hX dX3_add_69 rfl (fun _ => rfl) (by decide) (by omega) ?_
          first | with_reducible refine aw_iinc_3N hX rfl (by decide) dX3_add_70 ?_ | refine aw_iinc_3 hX rfl (by decide) dX3_add_70 ?_
          first | with_reducible refine aw_iinc_4N hX rfl (by decide) dX3_add_73 ?_ | refine aw_iinc_4 hX rfl (by decide) dX3_add_73 ?_
          refine aw_goto hX (tgt := 13) dX3_add_76 (by decide) ?_
          exact ih (i + 1) (by omega)
  refine aw_aload_0 hX dX3_add_0 ?_
  refine ag_X3_start hX fl_X3_15 dX3_add_1 ?_
  refine aw_aload_0 hX dX3_add_4 ?_
  refine ag_X3_size hX fl_X3_29 dX3_add_5 ?_
  refine aw_iald hX dX3_add_8 rfl (by decide) (by omega) ?_
  refine aw_ti he ?_
  refine aw_istore_3 hX rfl (by decide) dX3_add_9 ?_
  refine aw_iconst hX (v := nI 0) (by decide) dX3_add_10 ?_
  refine aw_istore_4 hX rfl (by decide) dX3_add_11 ?_
  exact loop (S.1 3) 0 (by omega)
