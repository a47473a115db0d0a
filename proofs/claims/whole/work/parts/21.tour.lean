def waL (w : Nat → Int32) (i : Nat) : Nat → Nat
  | 0 => 0
  | n + 1 => if ¬ w n = -9 ∧ (¬ w i ≤ w n ∨ (w n = w i ∧ n < i)) then waL w i n + 1 else waL w i n
set_option maxHeartbeats 4000000 in
set_option maxRecDepth 100000 in
theorem m_X2_waitingAheadOf (d : Nat) (G : GT) (S : St) (i : Nat) (hi : i < 12) (hs : S.1 7 ≤ 12) : rX2_waitingAheadOf G (d + 1) [.ref (gad G 3), .int (nI i)] S (some (.int (nI (waL (S.2.1 29) i (S.1 7))))) S := by
  refine runs_I (d := d) (by decide) (Nat.le_of_ble_eq_true rfl) (fun X (hX : XC X G d RX2 cX2_waitingAheadOf 5) hR => ?_)
  show AW X G 0 [.ref (gad G 3), .int (nI i), .null, .null, .null] [] S
  have loop : ∀ n j : Nat, j + n = S.1 7 → ∀ (v : Nat) (v4 : Value), v = waL (S.2.1 29) i j → AW X G 4 [.ref (gad G 3), .int (nI i), .int (nI v), .int (nI j), v4] [] S := by
    intro n
    induction n with
    | zero =>
      intro j hj v v4 hp
      refine aw_iload_3 hX dX2_waitingAheadOf_4 ?_
      refine aw_aload_0 hX dX2_waitingAheadOf_5 ?_
      refine ag_X2_size hX fl_X2_45 dX2_waitingAheadOf_6 ?_
      first | with_reducible refine aw_icmpgeN hX (tgt := 79) dX2_waitingAheadOf_9 (by decide) (by omega) (by omega) (fun c_9 => ?_) (fun c_9 => ?_) | refine aw_jge hX (tgt := 79) dX2_waitingAheadOf_9 (by decide) (fun c_9 => ?_) (fun c_9 => ?_)
      · skip
        refine aw_iload_2 hX dX2_waitingAheadOf_79 ?_
        refine aw_finI (hR _ _ dX2_waitingAheadOf_80) ?_ ?_
        · rw [show S.1 7 = j by omega, ← hp]
        · rfl
      · exact absurd c_9 (by omega)
    | succ n ih =>
      intro j hj v v4 hp
      refine aw_iload_3 hX dX2_waitingAheadOf_4 ?_
      refine aw_aload_0 hX dX2_waitingAheadOf_5 ?_
      refine ag_X2_size hX fl_X2_45 dX2_waitingAheadOf_6 ?_
      first | with_reducible refine aw_icmpgeN hX (tgt := 79) dX2_waitingAheadOf_9 (by decide) (by omega) (by omega) (fun c_9 => ?_) (fun c_9 => ?_) | refine aw_jge hX (tgt := 79) dX2_waitingAheadOf_9 (by decide) (fun c_9 => ?_) (fun c_9 => ?_)
      · exact absurd c_9 (by omega)
      · skip
        refine aw_aload_0 hX dX2_waitingAheadOf_12 ?_
        refine ag_X2_waiting hX fl_X2_42 dX2_waitingAheadOf_13 ?_
        refine aw_iload_3 hX dX2_waitingAheadOf_16 ?_
        refine aw_iald hX dX2_waitingAheadOf_17 rfl (by decide) (by omega) ?_
        refine aw_aload_0 hX dX2_waitingAheadOf_18 ?_
        refine ag_X2_waiting hX fl_X2_42 dX2_waitingAheadOf_19 ?_
        refine aw_iload_1 hX dX2_waitingAheadOf_22 ?_
        refine aw_iald hX dX2_waitingAheadOf_23 rfl (by decide) (by omega) ?_
        first | with_reducible refine aw_icmpltN hX (tgt := 47) dX2_waitingAheadOf_24 (by decide) (by omega) (by omega) (fun c_24 => ?_) (fun c_24 => ?_) | refine aw_jlt hX (tgt := 47) dX2_waitingAheadOf_24 (by decide) (fun c_24 => ?_) (fun c_24 => ?_)
        · skip
          refine aw_iconst hX (v := nI 1) (by decide) dX2_waitingAheadOf_47 ?_
          refine aw_goto hX (tgt := 52) dX2_waitingAheadOf_48 (by decide) ?_
          refine aw_istore_4 hX rfl (by decide) dX2_waitingAheadOf_52 ?_
          refine aw_aload_0 hX dX2_waitingAheadOf_54 ?_
          refine ag_X2_waiting hX fl_X2_42 dX2_waitingAheadOf_55 ?_
          refine aw_iload_3 hX dX2_waitingAheadOf_58 ?_
          refine aw_iald hX dX2_waitingAheadOf_59 rfl (by decide) (by omega) ?_
          refine aw_bipush hX (v := (-9)) (by decide) dX2_waitingAheadOf_60 ?_
          first | with_reducible refine aw_icmpeqN hX (tgt := 73) dX2_waitingAheadOf_62 (by decide) (by omega) (by omega) (fun c_62 => ?_) (fun c_62 => ?_) | refine aw_icmpeq hX (tgt := 73) dX2_waitingAheadOf_62 (by decide) (fun c_62 => ?_) (fun c_62 => ?_)
          · skip
            first | with_reducible refine aw_iinc_3N hX rfl (by decide) dX2_waitingAheadOf_73 ?_ | refine aw_iinc_3 hX rfl (by decide) dX2_waitingAheadOf_73 ?_
            refine aw_goto hX (tgt := 4) dX2_waitingAheadOf_76 (by decide) ?_
            exact ih (j + 1) (by omega) _ _ (by simp only [waL, ← hp]; simp [c_9, c_24, c_62])
          · skip
            refine aw_iload_4 hX dX2_waitingAheadOf_65 ?_
            refine aw_ifeq hX (tgt := 73) dX2_waitingAheadOf_67 (by decide) (fun c => absurd c (by decide)) (fun _ => ?_)
            first | with_reducible refine aw_iinc_2N hX rfl (by decide) dX2_waitingAheadOf_70 ?_ | refine aw_iinc_2 hX rfl (by decide) dX2_waitingAheadOf_70 ?_
            first | with_reducible refine aw_iinc_3N hX rfl (by decide) dX2_waitingAheadOf_73 ?_ | refine aw_iinc_3 hX rfl (by decide) dX2_waitingAheadOf_73 ?_
            refine aw_goto hX (tgt := 4) dX2_waitingAheadOf_76 (by decide) ?_
            exact ih (j + 1) (by omega) _ _ (by simp only [waL, ← hp]; simp [c_9, c_24, c_62])
        · skip
          refine aw_aload_0 hX dX2_waitingAheadOf_27 ?_
          refine ag_X2_waiting hX fl_X2_42 dX2_waitingAheadOf_28 ?_
          refine aw_iload_3 hX dX2_waitingAheadOf_31 ?_
          refine aw_iald hX dX2_waitingAheadOf_32 rfl (by decide) (by omega) ?_
          refine aw_aload_0 hX dX2_waitingAheadOf_33 ?_
          refine ag_X2_waiting hX fl_X2_42 dX2_waitingAheadOf_34 ?_
          refine aw_iload_1 hX dX2_waitingAheadOf_37 ?_
          refine aw_iald hX dX2_waitingAheadOf_38 rfl (by decide) (by omega) ?_
          first | with_reducible refine aw_icmpneN hX (tgt := 51) dX2_waitingAheadOf_39 (by decide) (by omega) (by omega) (fun c_39 => ?_) (fun c_39 => ?_) | refine aw_icmpne hX (tgt := 51) dX2_waitingAheadOf_39 (by decide) (fun c_39 => ?_) (fun c_39 => ?_)
          · skip
            refine aw_iconst hX (v := nI 0) (by decide) dX2_waitingAheadOf_51 ?_
            refine aw_istore_4 hX rfl (by decide) dX2_waitingAheadOf_52 ?_
            refine aw_aload_0 hX dX2_waitingAheadOf_54 ?_
            refine ag_X2_waiting hX fl_X2_42 dX2_waitingAheadOf_55 ?_
            refine aw_iload_3 hX dX2_waitingAheadOf_58 ?_
            refine aw_iald hX dX2_waitingAheadOf_59 rfl (by decide) (by omega) ?_
            refine aw_bipush hX (v := (-9)) (by decide) dX2_waitingAheadOf_60 ?_
            first | with_reducible refine aw_icmpeqN hX (tgt := 73) dX2_waitingAheadOf_62 (by decide) (by omega) (by omega) (fun c_62 => ?_) (fun c_62 => ?_) | refine aw_icmpeq hX (tgt := 73) dX2_waitingAheadOf_62 (by decide) (fun c_62 => ?_) (fun c_62 => ?_)
            · skip
              first | with_reducible refine aw_iinc_3N hX rfl (by decide) dX2_waitingAheadOf_73 ?_ | refine aw_iinc_3 hX rfl (by decide) dX2_waitingAheadOf_73 ?_
              refine aw_goto hX (tgt := 4) dX2_waitingAheadOf_76 (by decide) ?_
              exact ih (j + 1) (by omega) _ _ (by simp only [waL, ← hp]; simp [c_9, c_24, c_39, c_62])
            · skip
              refine aw_iload_4 hX dX2_waitingAheadOf_65 ?_
              refine aw_ifeq hX (tgt := 73) dX2_waitingAheadOf_67 (by decide) (fun _ => ?_) (fun c => absurd c (by decide))
              first | with_reducible refine aw_iinc_3N hX rfl (by decide) dX2_waitingAheadOf_73 ?_ | refine aw_iinc_3 hX rfl (by decide) dX2_waitingAheadOf_73 ?_
              refine aw_goto hX (tgt := 4) dX2_waitingAheadOf_76 (by decide) ?_
              exact ih (j + 1) (by omega) _ _ (by simp only [waL, ← hp]; simp [c_9, c_24, c_39, c_62])
          · replace c_39 : (S.2.1 29 j = S.2.1 29 i) = True := eq_true c_39
            refine aw_iload_3 hX dX2_waitingAheadOf_42 ?_
            refine aw_iload_1 hX dX2_waitingAheadOf_43 ?_
            first | with_reducible refine aw_icmpgeN hX (tgt := 51) dX2_waitingAheadOf_44 (by decide) (by omega) (by omega) (fun c_44 => ?_) (fun c_44 => ?_) | refine aw_jge hX (tgt := 51) dX2_waitingAheadOf_44 (by decide) (fun c_44 => ?_) (fun c_44 => ?_)
            · replace c_44 : ¬ j < i := by omega
              refine aw_iconst hX (v := nI 0) (by decide) dX2_waitingAheadOf_51 ?_
              refine aw_istore_4 hX rfl (by decide) dX2_waitingAheadOf_52 ?_
              refine aw_aload_0 hX dX2_waitingAheadOf_54 ?_
              refine ag_X2_waiting hX fl_X2_42 dX2_waitingAheadOf_55 ?_
              refine aw_iload_3 hX dX2_waitingAheadOf_58 ?_
              refine aw_iald hX dX2_waitingAheadOf_59 rfl (by decide) (by omega) ?_
              refine aw_bipush hX (v := (-9)) (by decide) dX2_waitingAheadOf_60 ?_
              first | with_reducible refine aw_icmpeqN hX (tgt := 73) dX2_waitingAheadOf_62 (by decide) (by omega) (by omega) (fun c_62 => ?_) (fun c_62 => ?_) | refine aw_icmpeq hX (tgt := 73) dX2_waitingAheadOf_62 (by decide) (fun c_62 => ?_) (fun c_62 => ?_)
              · skip
                first | with_reducible refine aw_iinc_3N hX rfl (by decide) dX2_waitingAheadOf_73 ?_ | refine aw_iinc_3 hX rfl (by decide) dX2_waitingAheadOf_73 ?_
                refine aw_goto hX (tgt := 4) dX2_waitingAheadOf_76 (by decide) ?_
                exact ih (j + 1) (by omega) _ _ (by simp only [waL, ← hp]; simp [c_9, c_24, c_39, c_44, c_62])
              · skip
                refine aw_iload_4 hX dX2_waitingAheadOf_65 ?_
                refine aw_ifeq hX (tgt := 73) dX2_waitingAheadOf_67 (by decide) (fun _ => ?_) (fun c => absurd c (by decide))
                first | with_reducible refine aw_iinc_3N hX rfl (by decide) dX2_waitingAheadOf_73 ?_ | refine aw_iinc_3 hX rfl (by decide) dX2_waitingAheadOf_73 ?_
                refine aw_goto hX (tgt := 4) dX2_waitingAheadOf_76 (by decide) ?_
                exact ih (j + 1) (by omega) _ _ (by simp only [waL, ← hp]; simp [c_9, c_24, c_39, c_44, c_62])
            · skip
              refine aw_iconst hX (v := nI 1) (by decide) dX2_waitingAheadOf_47 ?_
              refine aw_goto hX (tgt := 52) dX2_waitingAheadOf_48 (by decide) ?_
              refine aw_istore_4 hX rfl (by decide) dX2_waitingAheadOf_52 ?_
              refine aw_aload_0 hX dX2_waitingAheadOf_54 ?_
              refine ag_X2_waiting hX fl_X2_42 dX2_waitingAheadOf_55 ?_
              refine aw_iload_3 hX dX2_waitingAheadOf_58 ?_
              refine aw_iald hX dX2_waitingAheadOf_59 rfl (by decide) (by omega) ?_
              refine aw_bipush hX (v := (-9)) (by decide) dX2_waitingAheadOf_60 ?_
              first | with_reducible refine aw_icmpeqN hX (tgt := 73) dX2_waitingAheadOf_62 (by decide) (by omega) (by omega) (fun c_62 => ?_) (fun c_62 => ?_) | refine aw_icmpeq hX (tgt := 73) dX2_waitingAheadOf_62 (by decide) (fun c_62 => ?_) (fun c_62 => ?_)
              · skip
                first | with_reducible refine aw_iinc_3N hX rfl (by decide) dX2_waitingAheadOf_73 ?_ | refine aw_iinc_3 hX rfl (by decide) dX2_waitingAheadOf_73 ?_
                refine aw_goto hX (tgt := 4) dX2_waitingAheadOf_76 (by decide) ?_
                exact ih (j + 1) (by omega) _ _ (by simp only [waL, ← hp]; simp [c_9, c_24, c_39, c_44, c_62])
              · skip
                refine aw_iload_4 hX dX2_waitingAheadOf_65 ?_
                refine aw_ifeq hX (tgt := 73) dX2_waitingAheadOf_67 (by decide) (fun c => absurd c (by decide)) (fun _ => ?_)
                first | with_reducible refine aw_iinc_2N hX rfl (by decide) dX2_waitingAheadOf_70 ?_ | refine aw_iinc_2 hX rfl (by decide) dX2_waitingAheadOf_70 ?_
                first | with_reducible refine aw_iinc_3N hX rfl (by decide) dX2_waitingAheadOf_73 ?_ | refine aw_iinc_3 hX rfl (by decide) dX2_waitingAheadOf_73 ?_
                refine aw_goto hX (tgt := 4) dX2_waitingAheadOf_76 (by decide) ?_
                exact ih (j + 1) (by omega) _ _ (by simp only [waL, ← hp]; simp [c_9, c_24, c_39, c_44, c_62])
  refine aw_iconst hX (v := nI 0) (by decide) dX2_waitingAheadOf_0 ?_
  refine aw_istore_2 hX rfl (by decide) dX2_waitingAheadOf_1 ?_
  refine aw_iconst hX (v := nI 0) (by decide) dX2_waitingAheadOf_2 ?_
  refine aw_istore_3 hX rfl (by decide) dX2_waitingAheadOf_3 ?_
  exact loop (S.1 7) 0 (by omega) _ _ rfl
def ktX (S : St) : Nat → St
  | 0 => S
  | n + 1 => sA (ktX S n) 45 n (S.2.1 44 n)
theorem ktX_N {S : St} : ∀ {n : Nat}, (ktX S n).1 = S.1
  | 0 => rfl
  | n + 1 => ktX_N (n := n)
theorem ktX_A {S : St} {j : Nat} (h : j ≠ 45) : ∀ {n : Nat}, (ktX S n).2.1 j = S.2.1 j
  | 0 => rfl
  | n + 1 => by
    show (sA (ktX S n) 45 n (S.2.1 44 n)).2.1 j = S.2.1 j
    rw [sA_A, if_neg h]
    exact ktX_A h
theorem ktX_44 {S : St} {n : Nat} : (ktX S n).2.1 44 = S.2.1 44 := ktX_A (by decide)
set_option maxHeartbeats 4000000 in
set_option maxRecDepth 100000 in
theorem m_X6_keepTried (d : Nat) (G : GT) (S : St) (w : Nat) (hs : S.1 11 ≤ 6) : rX6_keepTried G (d + 1) [.ref (gad G 7), .int (nI w)] S none (ktX (sN S 12 w) (S.1 11)) := by
  refine runs_V (d := d) (by decide) (Nat.le_of_ble_eq_true rfl) (fun X (hX : XC X G d RX6 cX6_keepTried 3) hR => ?_)
  show AW X G 0 [.ref (gad G 7), .int (nI w), .null] [] S
  have loop : ∀ n i : Nat, i + n = S.1 11 → AW X G 7 [.ref (gad G 7), .int (nI w), .int (nI i)] [] (ktX (sN S 12 w) i) := by
    intro n
    induction n with
    | zero =>
      intro i hi
      obtain rfl : i = S.1 11 := by omega
      refine aw_iload_2 hX dX6_keepTried_7 ?_
      refine aw_aload_0 hX dX6_keepTried_8 ?_
      refine ag_X6_size hX fl_X6_31 dX6_keepTried_9 ?_
      try simp +decide only [sN_N, sN_A, sN_L, sN_R, sA_N, sA_A, sA_L, sA_R, sL_N, sL_A, sL_L, sL_R, sR_N, sR_A, sR_L, sR_R, reduceIte, ktX_N, ktX_44]
      first | with_reducible refine aw_icmpgeN hX (tgt := 33) dX6_keepTried_12 (by decide) (by omega) (by omega) (fun c_12 => ?_) (fun c_12 => ?_) | refine aw_jge hX (tgt := 33) dX6_keepTried_12 (by decide) (fun c_12 => ?_) (fun c_12 => ?_)
      · skip
        refine aw_finV (hR _ _ dX6_keepTried_33) ?_
        rfl
      · exact absurd c_12 (by omega)
    | succ n ih =>
      intro i hi
      refine aw_iload_2 hX dX6_keepTried_7 ?_
      refine aw_aload_0 hX dX6_keepTried_8 ?_
      refine ag_X6_size hX fl_X6_31 dX6_keepTried_9 ?_
      try simp +decide only [sN_N, sN_A, sN_L, sN_R, sA_N, sA_A, sA_L, sA_R, sL_N, sL_A, sL_L, sL_R, sR_N, sR_A, sR_L, sR_R, reduceIte, ktX_N, ktX_44]
      first | with_reducible refine aw_icmpgeN hX (tgt := 33) dX6_keepTried_12 (by decide) (by omega) (by omega) (fun c_12 => ?_) (fun c_12 => ?_) | refine aw_jge hX (tgt := 33) dX6_keepTried_12 (by decide) (fun c_12 => ?_) (fun c_12 => ?_)
      · exact absurd c_12 (by omega)
      · skip
        refine aw_aload_0 hX dX6_keepTried_15 ?_
        refine ag_X6_best hX fl_X6_28 dX6_keepTried_16 ?_
        try simp +decide only [sN_N, sN_A, sN_L, sN_R, sA_N, sA_A, sA_L, sA_R, sL_N, sL_A, sL_L, sL_R, sR_N, sR_A, sR_L, sR_R, reduceIte, ktX_N, ktX_44]
        refine aw_iload_2 hX dX6_keepTried_19 ?_
        refine aw_aload_0 hX dX6_keepTried_20 ?_
        refine ag_X6_tried hX fl_X6_25 dX6_keepTried_21 ?_
        try simp +decide only [sN_N, sN_A, sN_L, sN_R, sA_N, sA_A, sA_L, sA_R, sL_N, sL_A, sL_L, sL_R, sR_N, sR_A, sR_L, sR_R, reduceIte, ktX_N, ktX_44]
        refine aw_iload_2 hX dX6_keepTried_24 ?_
        refine aw_iald hX dX6_keepTried_25 rfl (by decide) (by omega) ?_
        try simp +decide only [sN_N, sN_A, sN_L, sN_R, sA_N, sA_A, sA_L, sA_R, sL_N, sL_A, sL_L, sL_R, sR_N, sR_A, sR_L, sR_R, reduceIte, ktX_N, ktX_44]
        refine aw_iast hX dX6_keepTried_26 rfl (fun _ => rfl) (by decide) (by omega) ?_
        first | with_reducible refine aw_iinc_2N hX rfl (by decide) dX6_keepTried_27 ?_ | refine aw_iinc_2 hX rfl (by decide) dX6_keepTried_27 ?_
        refine aw_goto hX (tgt := 7) dX6_keepTried_30 (by decide) ?_
        exact ih (i + 1) (by omega)
  refine aw_aload_0 hX dX6_keepTried_0 ?_
  refine aw_iload_1 hX dX6_keepTried_1 ?_
  refine ap_X6_way hX fl_X6_35 dX6_keepTried_2 ?_
  refine aw_iconst hX (v := nI 0) (by decide) dX6_keepTried_5 ?_
  refine aw_istore_2 hX rfl (by decide) dX6_keepTried_6 ?_
  exact loop (S.1 11) 0 (by omega)
def adN (a b : Nat) : Nat := if a ≤ b then b - a else a - b
theorem ab_nI {a b : Nat} (ha : a < 2 ^ 30) (hb : b < 2 ^ 30) : ab (nI a - nI b) = nI (adN a b) := by
  have h := pk_sub_toInt ha hb
  unfold ab adN
  have h0 : (0 : Int32).toInt = 0 := rfl
  by_cases hle : a ≤ b
  · rw [if_pos hle]
    by_cases e : a = b
    · subst e
      have e1 : nI a - nI a = 0 := by rw [pk_sub (Nat.le_refl a), Nat.sub_self]; rfl
      rw [e1, Nat.sub_self, if_pos (by decide)]; rfl
    · rw [if_neg (by rw [Int32.le_iff_toInt_le, h]; omega), Int32.zero_sub, Int32.neg_sub, pk_sub hle]
  · rw [if_neg hle, if_pos (by rw [Int32.le_iff_toInt_le, h]; omega), pk_sub (by omega)]
def TrOK (S : St) : Prop := S.1 11 ≤ 6 ∧ S.1 12 ≤ 1000000 ∧ ∀ i, i < S.1 11 → S.2.1 41 i = nI (tn (S.2.1 41 i)) ∧ tn (S.2.1 41 i) ≤ 20 ∧ S.2.1 42 i = nI (tn (S.2.1 42 i)) ∧ tn (S.2.1 42 i) ≤ 20
/-- the loop of extend, out of what a step does -/
def exI (rec : St → Nat → Nat → Nat → Nat → St) (dp ax ay gn : Nat) : Nat → Nat → St → St
  | 0, _, S => S
  | n + 1, i, S => exI rec dp ax ay gn n (i + 1) (if S.2.1 43 i = 0 then sA (rec (sA (sA S 43 i (bI true)) 44 dp (S.2.1 40 i)) (dp + 1) (tn (S.2.1 41 i)) (tn (S.2.1 42 i)) (gn + (adN (tn (S.2.1 41 i)) ax + adN (tn (S.2.1 42 i)) ay))) 43 i (bI false) else S)
def exX : Nat → St → Nat → Nat → Nat → Nat → St
  | 0, S, _, _, _, _ => S
  | f + 1, S, dp, ax, ay, gn => if S.1 12 ≤ gn + ax + ay then S else if S.1 11 ≤ dp then ktX (sN S 12 (gn + ax + ay)) (S.1 11) else exI (exX f) dp ax ay gn (S.1 11) 0 S
theorem exI_N {rec : St → Nat → Nat → Nat → Nat → St} {dp ax ay gn j : Nat} (hr : ∀ S a b c e, (rec S a b c e).1 j = S.1 j) : ∀ (n i : Nat) (S : St), (exI rec dp ax ay gn n i S).1 j = S.1 j
  | 0, i, S => rfl
  | n + 1, i, S => by
    rw [exI, exI_N hr n]
    split
    · simp only [sA_N, hr]
    · rfl
theorem exX_N {j : Nat} (h : j ≠ 12) : ∀ (f : Nat) (S : St) (dp ax ay gn : Nat), (exX f S dp ax ay gn).1 j = S.1 j
  | 0, S, dp, ax, ay, gn => rfl
  | f + 1, S, dp, ax, ay, gn => by
    unfold exX
    split
    · rfl
    · split
      · rw [ktX_N]; simp only [sN_N, if_neg h]
      · exact exI_N (exX_N h f) _ _ _
theorem exI_A {rec : St → Nat → Nat → Nat → Nat → St} {dp ax ay gn j : Nat} (h : j < 43 ∨ 45 < j) (hr : ∀ S a b c e, (rec S a b c e).2.1 j = S.2.1 j) : ∀ (n i : Nat) (S : St), (exI rec dp ax ay gn n i S).2.1 j = S.2.1 j
  | 0, i, S => rfl
  | n + 1, i, S => by
    rw [exI, exI_A h hr n]
    split
    · rw [sA_A, if_neg (by omega), hr, sA_A, if_neg (by omega), sA_A, if_neg (by omega)]
    · rfl
theorem exX_A {j : Nat} (h : j < 43 ∨ 45 < j) : ∀ (f : Nat) (S : St) (dp ax ay gn : Nat), (exX f S dp ax ay gn).2.1 j = S.2.1 j
  | 0, S, dp, ax, ay, gn => rfl
  | f + 1, S, dp, ax, ay, gn => by
    unfold exX
    split
    · rfl
    · split
      · rw [ktX_A (by omega)]; rfl
      · exact exI_A h (exX_A h f) _ _ _
theorem exI_12 {rec : St → Nat → Nat → Nat → Nat → St} {dp ax ay gn : Nat} (hr : ∀ S a b c e, (rec S a b c e).1 12 ≤ S.1 12) : ∀ (n i : Nat) (S : St), (exI rec dp ax ay gn n i S).1 12 ≤ S.1 12
  | 0, i, S => Nat.le_refl _
  | n + 1, i, S => by
    rw [exI]
    refine Nat.le_trans (exI_12 hr n _ _) ?_
    split
    · exact hr _ _ _ _ _
    · exact Nat.le_refl _
theorem exX_12 : ∀ (f : Nat) (S : St) (dp ax ay gn : Nat), (exX f S dp ax ay gn).1 12 ≤ S.1 12
  | 0, S, dp, ax, ay, gn => Nat.le_refl _
  | f + 1, S, dp, ax, ay, gn => by
    unfold exX
    split
    · exact Nat.le_refl _
    · split
      · rw [ktX_N]; simp only [sN_N, reduceIte]; omega
      · exact exI_12 (exX_12 f) _ _ _
theorem TrOK.step {S S' : St} (h : TrOK S) (h1 : S'.1 11 = S.1 11) (h2 : S'.1 12 ≤ S.1 12) (h3 : S'.2.1 41 = S.2.1 41) (h4 : S'.2.1 42 = S.2.1 42) : TrOK S' := by
  obtain ⟨a, b, c⟩ := h
  refine ⟨by omega, by omega, fun i hi => ?_⟩
  rw [h3, h4]
  exact c i (by omega)
theorem TrOK.ex {S : St} (h : TrOK S) (f dp ax ay gn : Nat) : TrOK (exX f S dp ax ay gn) := h.step (exX_N (by decide) f S dp ax ay gn) (exX_12 f S dp ax ay gn) (exX_A (by omega) f S dp ax ay gn) (exX_A (by omega) f S dp ax ay gn)
theorem adN_le {a b m : Nat} (ha : a ≤ m) (hb : b ≤ m) : adN a b ≤ m := by unfold adN; split <;> omega
set_option maxHeartbeats 4000000 in
set_option maxRecDepth 100000 in
theorem m_X6_extend (G : GT) : ∀ (f d : Nat) (S : St) (dp ax ay gn : Nat), TrOK S → S.1 11 ≤ dp + f → ax ≤ 20 → ay ≤ 20 → gn ≤ 40 * dp → dp ≤ 6 → rX6_extend G (d + f + 2) [.ref (gad G 7), .int (nI dp), .int (nI ax), .int (nI ay), .int (nI gn)] S none (exX (f + 1) S dp ax ay gn) := by
  intro f
  induction f with
  | zero =>
    intro d S dp ax ay gn htr hf hax hay hgn hdp
    have h6 := htr.1
    have h12 := htr.2.1
    refine runs_V (d := (d + 1)) (by decide) (Nat.le_of_ble_eq_true rfl) (fun X (hX : XC X G (d + 1) RX6 cX6_extend 8) hR => ?_)
    show AW X G 0 [.ref (gad G 7), .int (nI dp), .int (nI ax), .int (nI ay), .int (nI gn), .null, .null, .null] [] S
    refine aw_iload_4 hX dX6_extend_0 ?_
    refine aw_iload_2 hX dX6_extend_2 ?_
    first | with_reducible refine aw_iaddN hX dX6_extend_3 ?_ | refine aw_iadd hX dX6_extend_3 ?_
    refine aw_iload_3 hX dX6_extend_4 ?_
    first | with_reducible refine aw_iaddN hX dX6_extend_5 ?_ | refine aw_iadd hX dX6_extend_5 ?_
    refine aw_istore_5 hX rfl (by decide) dX6_extend_6 ?_
    refine aw_iload_5 hX dX6_extend_8 ?_
    refine aw_aload_0 hX dX6_extend_10 ?_
    refine ag_X6_way hX fl_X6_35 dX6_extend_11 ?_
    first | with_reducible refine aw_icmpltN hX (tgt := 18) dX6_extend_14 (by decide) (by omega) (by omega) (fun c_14 => ?_) (fun c_14 => ?_) | refine aw_jlt hX (tgt := 18) dX6_extend_14 (by decide) (fun c_14 => ?_) (fun c_14 => ?_)
    · replace c_14 : ¬ S.1 12 ≤ gn + ax + ay := by omega
      refine aw_iload_1 hX dX6_extend_18 ?_
      refine aw_aload_0 hX dX6_extend_19 ?_
      refine ag_X6_size hX fl_X6_31 dX6_extend_20 ?_
      first | with_reducible refine aw_icmpltN hX (tgt := 33) dX6_extend_23 (by decide) (by omega) (by omega) (fun c_23 => ?_) (fun c_23 => ?_) | refine aw_jlt hX (tgt := 33) dX6_extend_23 (by decide) (fun c_23 => ?_) (fun c_23 => ?_)
      · exact absurd c_23 (by omega)
      · replace c_23 : S.1 11 ≤ dp := c_23
        refine aw_aload_0 hX dX6_extend_26 ?_
        refine aw_iload_5 hX dX6_extend_27 ?_
        refine cv_X6_keepTried hX ml_X6_43 dX6_extend_29 (m_X6_keepTried _ G S (gn + ax + ay) htr.1) (Nat.le_of_ble_eq_true rfl) ?_
        refine aw_finV (hR _ _ dX6_extend_32) ?_
        first | (simp only [exX, if_pos c_14]; done) | (simp only [exX, if_neg c_14, if_pos c_23]; done)
    · replace c_14 : S.1 12 ≤ gn + ax + ay := by omega
      refine aw_finV (hR _ _ dX6_extend_17) ?_
      first | (simp only [exX, if_pos c_14]; done) | (simp only [exX, if_neg c_14, if_pos c_23]; done)
  | succ f ihf =>
    intro d S dp ax ay gn htr hf hax hay hgn hdp
    have h6 := htr.1
    have h12 := htr.2.1
    refine runs_V (d := (d + f + 2)) (by decide) (Nat.le_of_ble_eq_true rfl) (fun X (hX : XC X G (d + f + 2) RX6 cX6_extend 8) hR => ?_)
    show AW X G 0 [.ref (gad G 7), .int (nI dp), .int (nI ax), .int (nI ay), .int (nI gn), .null, .null, .null] [] S
    refine aw_iload_4 hX dX6_extend_0 ?_
    refine aw_iload_2 hX dX6_extend_2 ?_
    first | with_reducible refine aw_iaddN hX dX6_extend_3 ?_ | refine aw_iadd hX dX6_extend_3 ?_
    refine aw_iload_3 hX dX6_extend_4 ?_
    first | with_reducible refine aw_iaddN hX dX6_extend_5 ?_ | refine aw_iadd hX dX6_extend_5 ?_
    refine aw_istore_5 hX rfl (by decide) dX6_extend_6 ?_
    refine aw_iload_5 hX dX6_extend_8 ?_
    refine aw_aload_0 hX dX6_extend_10 ?_
    refine ag_X6_way hX fl_X6_35 dX6_extend_11 ?_
    first | with_reducible refine aw_icmpltN hX (tgt := 18) dX6_extend_14 (by decide) (by omega) (by omega) (fun c_14 => ?_) (fun c_14 => ?_) | refine aw_jlt hX (tgt := 18) dX6_extend_14 (by decide) (fun c_14 => ?_) (fun c_14 => ?_)
    · replace c_14 : ¬ S.1 12 ≤ gn + ax + ay := by omega
      refine aw_iload_1 hX dX6_extend_18 ?_
      refine aw_aload_0 hX dX6_extend_19 ?_
      refine ag_X6_size hX fl_X6_31 dX6_extend_20 ?_
      first | with_reducible refine aw_icmpltN hX (tgt := 33) dX6_extend_23 (by decide) (by omega) (by omega) (fun c_23 => ?_) (fun c_23 => ?_) | refine aw_jlt hX (tgt := 33) dX6_extend_23 (by decide) (fun c_23 => ?_) (fun c_23 => ?_)
      · replace c_23 : ¬ S.1 11 ≤ dp := by omega
        have loop : ∀ (n i : Nat) (S1 : St), i + n = S.1 11 → S1.1 11 = S.1 11 → TrOK S1 → exI (exX (f + 1)) dp ax ay gn n i S1 = exI (exX (f + 1)) dp ax ay gn (S.1 11) 0 S → ∀ (h5 : Int32) (v7 : Value), AW X G 36 [.ref (gad G 7), .int (nI dp), .int (nI ax), .int (nI ay), .int (nI gn), .int h5, .int (nI i), v7] [] S1 := by
          intro n
          induction n with
          | zero =>
            intro i S1 hi h11 ht hp h5 v7
            have h6 := ht.1
            refine aw_iload_6 hX dX6_extend_36 ?_
            refine aw_aload_0 hX dX6_extend_38 ?_
            refine ag_X6_size hX fl_X6_31 dX6_extend_39 ?_
            first | with_reducible refine aw_icmpgeN hX (tgt := 143) dX6_extend_42 (by decide) (by omega) (by omega) (fun c_42 => ?_) (fun c_42 => ?_) | refine aw_jge hX (tgt := 143) dX6_extend_42 (by decide) (fun c_42 => ?_) (fun c_42 => ?_)
            · skip
              refine aw_finV (hR _ _ dX6_extend_143) ?_
              rw [exX, if_neg c_14, if_neg c_23, ← hp]; rfl
            · exact absurd c_42 (by omega)
          | succ n ih =>
            intro i S1 hi h11 ht hp h5 v7
            have h6 := ht.1
            refine aw_iload_6 hX dX6_extend_36 ?_
            refine aw_aload_0 hX dX6_extend_38 ?_
            refine ag_X6_size hX fl_X6_31 dX6_extend_39 ?_
            first | with_reducible refine aw_icmpgeN hX (tgt := 143) dX6_extend_42 (by decide) (by omega) (by omega) (fun c_42 => ?_) (fun c_42 => ?_) | refine aw_jge hX (tgt := 143) dX6_extend_42 (by decide) (fun c_42 => ?_) (fun c_42 => ?_)
            · exact absurd c_42 (by omega)
            · skip
              refine aw_aload_0 hX dX6_extend_45 ?_
              refine ag_X6_passed hX fl_X6_21 dX6_extend_46 ?_
              refine aw_iload_6 hX dX6_extend_49 ?_
              refine aw_zald hX dX6_extend_51 rfl (by decide) (by omega) ?_
              first | with_reducible refine aw_ifneB hX (tgt := 137) dX6_extend_52 (by decide) (fun c_52 => ?_) (fun c_52 => ?_) | refine aw_ifne hX (tgt := 137) dX6_extend_52 (by decide) (fun c_52 => ?_) (fun c_52 => ?_)
              · skip
                first | with_reducible refine aw_iinc_6N hX rfl (by decide) dX6_extend_137 ?_ | refine aw_iinc_6 hX rfl (by decide) dX6_extend_137 ?_
                refine aw_goto hX (tgt := 36) dX6_extend_140 (by decide) ?_
                exact ih (i + 1) _ (by omega) (by first | exact h11 | (show (exX (f + 1) _ _ _ _ _).1 11 = S.1 11; rw [exX_N (by decide)]; exact h11)) (by first | exact ht | exact (TrOK.ex (S := (sA (sA S1 43 i (bI true)) 44 dp (S1.2.1 40 i))) (ht.step rfl (Nat.le_refl _) rfl rfl) (f + 1) (dp + 1) (tn (S1.2.1 41 i)) (tn (S1.2.1 42 i)) (gn + (adN (tn (S1.2.1 41 i)) ax + adN (tn (S1.2.1 42 i)) ay))).step rfl (Nat.le_refl _) rfl rfl) (by rw [← hp]; simp only [exI, c_42, c_52, if_true, if_false, reduceIte]) _ _
              · have hxy := ht.2.2 i (by omega)
                refine aw_aload_0 hX dX6_extend_55 ?_
                refine ag_X6_passed hX fl_X6_21 dX6_extend_56 ?_
                refine aw_iload_6 hX dX6_extend_59 ?_
                refine aw_iconst hX (v := nI 1) (by decide) dX6_extend_61 ?_
                refine aw_ti (show nI 1 = bI true from rfl) ?_
                refine aw_zast hX dX6_extend_62 rfl (fun _ => rfl) (by decide) (by omega) ?_
                refine aw_aload_0 hX dX6_extend_63 ?_
                refine ag_X6_tried hX fl_X6_25 dX6_extend_64 ?_
                try simp +decide only [sN_N, sN_A, sN_L, sN_R, sA_N, sA_A, sA_L, sA_R, sL_N, sL_A, sL_L, sL_R, sR_N, sR_A, sR_L, sR_R, reduceIte]
                refine aw_iload_1 hX dX6_extend_67 ?_
                refine aw_aload_0 hX dX6_extend_68 ?_
                refine ag_X6_flue hX fl_X6_11 dX6_extend_69 ?_
                try simp +decide only [sN_N, sN_A, sN_L, sN_R, sA_N, sA_A, sA_L, sA_R, sL_N, sL_A, sL_L, sL_R, sR_N, sR_A, sR_L, sR_R, reduceIte]
                refine aw_iload_6 hX dX6_extend_72 ?_
                refine aw_iald hX dX6_extend_74 rfl (by decide) (by omega) ?_
                try simp +decide only [sN_N, sN_A, sN_L, sN_R, sA_N, sA_A, sA_L, sA_R, sL_N, sL_A, sL_L, sL_R, sR_N, sR_A, sR_L, sR_R, reduceIte]
                refine aw_iast hX dX6_extend_75 rfl (fun _ => rfl) (by decide) (by omega) ?_
                refine aw_aload_0 hX dX6_extend_76 ?_
                refine ag_X6_x hX fl_X6_15 dX6_extend_77 ?_
                try simp +decide only [sN_N, sN_A, sN_L, sN_R, sA_N, sA_A, sA_L, sA_R, sL_N, sL_A, sL_L, sL_R, sR_N, sR_A, sR_L, sR_R, reduceIte]
                refine aw_iload_6 hX dX6_extend_80 ?_
                refine aw_iald hX dX6_extend_82 rfl (by decide) (by omega) ?_
                try simp +decide only [sN_N, sN_A, sN_L, sN_R, sA_N, sA_A, sA_L, sA_R, sL_N, sL_A, sL_L, sL_R, sR_N, sR_A, sR_L, sR_R, reduceIte]
                refine aw_ti hxy.1 ?_
                refine aw_iload_2 hX dX6_extend_83 ?_
                refine aw_isub hX dX6_extend_84 ?_
                refine aw_abs hX ml_X6_47 dX6_extend_85 (Nat.le_of_ble_eq_true rfl) ?_
                refine aw_ti (ab_nI (by omega) (by omega)) ?_
                refine aw_aload_0 hX dX6_extend_88 ?_
                refine ag_X6_y hX fl_X6_18 dX6_extend_89 ?_
                try simp +decide only [sN_N, sN_A, sN_L, sN_R, sA_N, sA_A, sA_L, sA_R, sL_N, sL_A, sL_L, sL_R, sR_N, sR_A, sR_L, sR_R, reduceIte]
                refine aw_iload_6 hX dX6_extend_92 ?_
                refine aw_iald hX dX6_extend_94 rfl (by decide) (by omega) ?_
                try simp +decide only [sN_N, sN_A, sN_L, sN_R, sA_N, sA_A, sA_L, sA_R, sL_N, sL_A, sL_L, sL_R, sR_N, sR_A, sR_L, sR_R, reduceIte]
                refine aw_ti hxy.2.2.1 ?_
                refine aw_iload_3 hX dX6_extend_95 ?_
                refine aw_isub hX dX6_extend_96 ?_
                refine aw_abs hX ml_X6_47 dX6_extend_97 (Nat.le_of_ble_eq_true rfl) ?_
                refine aw_ti (ab_nI (by omega) (by omega)) ?_
                first | with_reducible refine aw_iaddN hX dX6_extend_100 ?_ | refine aw_iadd hX dX6_extend_100 ?_
                refine aw_istore_7 hX rfl (by decide) dX6_extend_101 ?_
                refine aw_aload_0 hX dX6_extend_103 ?_
                refine aw_iload_1 hX dX6_extend_104 ?_
                refine aw_iconst hX (v := nI 1) (by decide) dX6_extend_105 ?_
                first | with_reducible refine aw_iaddN hX dX6_extend_106 ?_ | refine aw_iadd hX dX6_extend_106 ?_
                refine aw_aload_0 hX dX6_extend_107 ?_
                refine ag_X6_x hX fl_X6_15 dX6_extend_108 ?_
                try simp +decide only [sN_N, sN_A, sN_L, sN_R, sA_N, sA_A, sA_L, sA_R, sL_N, sL_A, sL_L, sL_R, sR_N, sR_A, sR_L, sR_R, reduceIte]
                refine aw_iload_6 hX dX6_extend_111 ?_
                refine aw_iald hX dX6_extend_113 rfl (by decide) (by omega) ?_
                try simp +decide only [sN_N, sN_A, sN_L, sN_R, sA_N, sA_A, sA_L, sA_R, sL_N, sL_A, sL_L, sL_R, sR_N, sR_A, sR_L, sR_R, reduceIte]
                refine aw_ti hxy.1 ?_
                refine aw_aload_0 hX dX6_extend_114 ?_
                refine ag_X6_y hX fl_X6_18 dX6_extend_115 ?_
                try simp +decide only [sN_N, sN_A, sN_L, sN_R, sA_N, sA_A, sA_L, sA_R, sL_N, sL_A, sL_L, sL_R, sR_N, sR_A, sR_L, sR_R, reduceIte]
                refine aw_iload_6 hX dX6_extend_118 ?_
                refine aw_iald hX dX6_extend_120 rfl (by decide) (by omega) ?_
                try simp +decide only [sN_N, sN_A, sN_L, sN_R, sA_N, sA_A, sA_L, sA_R, sL_N, sL_A, sL_L, sL_R, sR_N, sR_A, sR_L, sR_R, reduceIte]
                refine aw_ti hxy.2.2.1 ?_
                refine aw_iload_4 hX dX6_extend_121 ?_
                refine aw_iload_7 hX dX6_extend_123 ?_
                first | with_reducible refine aw_iaddN hX dX6_extend_125 ?_ | refine aw_iadd hX dX6_extend_125 ?_
                refine cs_X6_extend hX ml_X6_39 dX6_extend_126 (ihf d (sA (sA S1 43 i (bI true)) 44 dp (S1.2.1 40 i)) (dp + 1) _ _ (gn + (adN (tn (S1.2.1 41 i)) ax + adN (tn (S1.2.1 42 i)) ay)) (ht.step rfl (Nat.le_refl _) rfl rfl) (by show S1.1 11 ≤ dp + 1 + f; omega) hxy.2.1 hxy.2.2.2 (by have := adN_le hxy.2.1 hax; have := adN_le hxy.2.2.2 hay; omega) (by omega)) (Nat.le_of_ble_eq_true rfl) ?_
                refine aw_aload_0 hX dX6_extend_129 ?_
                refine ag_X6_passed hX fl_X6_21 dX6_extend_130 ?_
                try simp +decide only [sN_N, sN_A, sN_L, sN_R, sA_N, sA_A, sA_L, sA_R, sL_N, sL_A, sL_L, sL_R, sR_N, sR_A, sR_L, sR_R, reduceIte]
                refine aw_iload_6 hX dX6_extend_133 ?_
                refine aw_iconst hX (v := nI 0) (by decide) dX6_extend_135 ?_
                refine aw_ti (show nI 0 = bI false from rfl) ?_
                refine aw_zast hX dX6_extend_136 rfl (fun _ => rfl) (by decide) (by omega) ?_
                first | with_reducible refine aw_iinc_6N hX rfl (by decide) dX6_extend_137 ?_ | refine aw_iinc_6 hX rfl (by decide) dX6_extend_137 ?_
                refine aw_goto hX (tgt := 36) dX6_extend_140 (by decide) ?_
                exact ih (i + 1) _ (by omega) (by first | exact h11 | (show (exX (f + 1) _ _ _ _ _).1 11 = S.1 11; rw [exX_N (by decide)]; exact h11)) (by first | exact ht | exact (TrOK.ex (S := (sA (sA S1 43 i (bI true)) 44 dp (S1.2.1 40 i))) (ht.step rfl (Nat.le_refl _) rfl rfl) (f + 1) (dp + 1) (tn (S1.2.1 41 i)) (tn (S1.2.1 42 i)) (gn + (adN (tn (S1.2.1 41 i)) ax + adN (tn (S1.2.1 42 i)) ay))).step rfl (Nat.le_refl _) rfl rfl) (by rw [← hp]; simp only [exI, c_42, c_52, if_true, if_false, reduceIte]) _ _
        refine aw_iconst hX (v := nI 0) (by decide) dX6_extend_33 ?_
        refine aw_istore_6 hX rfl (by decide) dX6_extend_34 ?_
        exact loop (S.1 11) 0 S (by omega) rfl htr rfl _ _
      · replace c_23 : S.1 11 ≤ dp := c_23
        refine aw_aload_0 hX dX6_extend_26 ?_
        refine aw_iload_5 hX dX6_extend_27 ?_
        refine cv_X6_keepTried hX ml_X6_43 dX6_extend_29 (m_X6_keepTried _ G S (gn + ax + ay) htr.1) (Nat.le_of_ble_eq_true rfl) ?_
        refine aw_finV (hR _ _ dX6_extend_32) ?_
        first | (simp only [exX, if_pos c_14]; done) | (simp only [exX, if_neg c_14, if_pos c_23]; done)
    · replace c_14 : S.1 12 ≤ gn + ax + ay := by omega
      refine aw_finV (hR _ _ dX6_extend_17) ?_
      first | (simp only [exX, if_pos c_14]; done) | (simp only [exX, if_neg c_14, if_pos c_23]; done)
set_option maxHeartbeats 4000000 in
set_option maxRecDepth 100000 in
theorem m_X6_findLeastWay (d : Nat) (G : GT) (S : St) (hs : S.1 11 ≤ 6) (htr : TrOK (sN S 12 1000000)) : rX6_findLeastWay G (d + 9) [.ref (gad G 7)] S none (exX 7 (sN S 12 1000000) 0 0 0 0) := by
  refine runs_V (d := (d + 8)) (by decide) (Nat.le_of_ble_eq_true rfl) (fun X (hX : XC X G (d + 8) RX6 cX6_findLeastWay 1) hR => ?_)
  show AW X G 0 [.ref (gad G 7)] [] S
  refine aw_aload_0 hX dX6_findLeastWay_0 ?_
  refine aw_ldc hX kc_X6_38 dX6_findLeastWay_1 ?_
  refine aw_ti (y := nI 1000000) (by decide) ?_
  refine ap_X6_way hX fl_X6_35 dX6_findLeastWay_3 ?_
  refine aw_aload_0 hX dX6_findLeastWay_6 ?_
  refine aw_iconst hX (v := nI 0) (by decide) dX6_findLeastWay_7 ?_
  refine aw_iconst hX (v := nI 0) (by decide) dX6_findLeastWay_8 ?_
  refine aw_iconst hX (v := nI 0) (by decide) dX6_findLeastWay_9 ?_
  refine aw_iconst hX (v := nI 0) (by decide) dX6_findLeastWay_10 ?_
  refine cs_X6_extend hX ml_X6_39 dX6_findLeastWay_11 (m_X6_extend G 6 _ _ 0 0 0 0 htr (by show S.1 11 ≤ 0 + 6; omega) (by omega) (by omega) (by omega) (by omega)) (Nat.le_of_ble_eq_true rfl) ?_
  refine aw_finV (hR _ _ dX6_findLeastWay_14) ?_
  rfl
