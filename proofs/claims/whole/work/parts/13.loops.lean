theorem np1 (n : Nat) : nI (n + 1) - nI 1 = nI n := by rw [pk_sub (by omega)]; rfl
theorem nm1 (n : Nat) : nI n + Int32.ofInt (-1) = nI n - nI 1 := by
  rw [show Int32.ofInt (-1) = - nI 1 from by decide]; exact (Int32.sub_eq_add_neg (nI n) (nI 1)).symm
/-- what is AS KNOWN out of the first n LOOKS: what was found, and its DAY -/
def knL (fl dy td fi : Nat → Int32) (f day : Int32) : Nat → Int32 × Int32
  | 0 => (-9, -1)
  | n + 1 => if fl n = f ∧ td n ≤ day ∧ dy n ≤ day ∧ (knL fl dy td fi f day n).2 ≤ dy n then (fi n, dy n) else knL fl dy td fi f day n
/-- the latest of the first n sweeps of f up to a day -/
def laL (fl dy : Nat → Int32) (f day : Int32) : Nat → Option Nat
  | 0 => none
  | n + 1 => if fl n = f ∧ dy n ≤ day then some n else laL fl dy f day n
def oN (x : Option Nat) : Int32 := match x with
  | none => -9
  | some k => nI k
def erL (hd fe : Nat → Int32) (h : Int32) : Nat → Int32
  | 0 => 0
  | n + 1 => if hd n = h then erL hd fe h n + fe n else erL hd fe h n
def infL (td : Nat → Int32) (day : Int32) : Nat → Option Nat
  | 0 => none
  | n + 1 => if td n ≤ day then some n else infL td day n
def spL (ff sp fr : Nat → Int32) (fuel day : Int32) (lo : Nat) : Nat → Int32
  | 0 => nI 100
  | n + 1 => if ff (lo + n) = fuel ∧ fr (lo + n) ≤ day then sp (lo + n) else spL ff sp fr fuel day lo n
def tn (x : Int32) : Nat := x.toNatClampNeg
def spO (nl : Nat) (td st ff sp fr : Nat → Int32) (fuel day : Int32) : Int32 := match infL td day nl with
  | none => nI 100
  | some k => spL ff sp fr fuel day (tn (st k)) (tn (st (k + 1)) - tn (st k))
def fdL (P : Nat → Bool) : Nat → Nat → Nat
  | 0, d => d
  | n + 1, d => if P d then d else fdL P n (d + 1)
set_option maxHeartbeats 4000000 in
set_option maxRecDepth 100000 in
theorem m_X4_asKnown (d : Nat) (G : GT) (S : St) (f day : Int32) (hs : S.1 8 ≤ 30) : rX4_asKnown G (d + 1) [.ref (gad G 4), .int f, .int day] S (some (.int ((knL (S.2.1 30) (S.2.1 31) (S.2.1 32) (S.2.1 33) f day (S.1 8)).1))) S := by
  refine runs_I (d := d) (by decide) (Nat.le_of_ble_eq_true rfl) (fun X (hX : XC X G d RX4 cX4_asKnown 7) hR => ?_)
  show AW X G 0 [.ref (gad G 4), .int f, .int day, .null, .null, .null, .null] [] S
  have loop : ∀ n i : Nat, i + n = S.1 8 → ∀ (fo la : Int32) (v6 : Value), (fo, la) = knL (S.2.1 30) (S.2.1 31) (S.2.1 32) (S.2.1 33) f day i → AW X G 9 [.ref (gad G 4), .int f, .int day, .int fo, .int la, .int (nI i), v6] [] S := by
    intro n
    induction n with
    | zero =>
      intro i hi fo la v6 hp
      refine aw_iload_5 hX dX4_asKnown_9 ?_
      refine aw_aload_0 hX dX4_asKnown_11 ?_
      refine ag_X4_size hX fl_X4_24 dX4_asKnown_12 ?_
      first | with_reducible refine aw_icmpgeN hX (tgt := 98) dX4_asKnown_15 (by decide) (by omega) (by omega) (fun c_15 => ?_) (fun c_15 => ?_) | refine aw_jge hX (tgt := 98) dX4_asKnown_15 (by decide) (fun c_15 => ?_) (fun c_15 => ?_)
      · skip
        refine aw_iload_3 hX dX4_asKnown_98 ?_
        refine aw_finI (hR _ _ dX4_asKnown_99) ?_ ?_
        · rw [show S.1 8 = i by omega, ← hp]
        · rfl
      · exact absurd c_15 (by omega)
    | succ n ih =>
      intro i hi fo la v6 hp
      refine aw_iload_5 hX dX4_asKnown_9 ?_
      refine aw_aload_0 hX dX4_asKnown_11 ?_
      refine ag_X4_size hX fl_X4_24 dX4_asKnown_12 ?_
      first | with_reducible refine aw_icmpgeN hX (tgt := 98) dX4_asKnown_15 (by decide) (by omega) (by omega) (fun c_15 => ?_) (fun c_15 => ?_) | refine aw_jge hX (tgt := 98) dX4_asKnown_15 (by decide) (fun c_15 => ?_) (fun c_15 => ?_)
      · exact absurd c_15 (by omega)
      · skip
        refine aw_aload_0 hX dX4_asKnown_18 ?_
        refine ag_X4_flue hX fl_X4_11 dX4_asKnown_19 ?_
        refine aw_iload_5 hX dX4_asKnown_22 ?_
        refine aw_iald hX dX4_asKnown_24 rfl (by decide) (by omega) ?_
        refine aw_iload_1 hX dX4_asKnown_25 ?_
        first | with_reducible refine aw_icmpneN hX (tgt := 55) dX4_asKnown_26 (by decide) (by omega) (by omega) (fun c_26 => ?_) (fun c_26 => ?_) | refine aw_icmpne hX (tgt := 55) dX4_asKnown_26 (by decide) (fun c_26 => ?_) (fun c_26 => ?_)
        · skip
          refine aw_iconst hX (v := nI 0) (by decide) dX4_asKnown_55 ?_
          refine aw_istore_6 hX rfl (by decide) dX4_asKnown_56 ?_
          refine aw_iload_6 hX dX4_asKnown_58 ?_
          refine aw_ifeq hX (tgt := 92) dX4_asKnown_60 (by decide) (fun _ => ?_) (fun c => absurd c (by decide))
          first | with_reducible refine aw_iinc_5N hX rfl (by decide) dX4_asKnown_92 ?_ | refine aw_iinc_5 hX rfl (by decide) dX4_asKnown_92 ?_
          refine aw_goto hX (tgt := 9) dX4_asKnown_95 (by decide) ?_
          exact ih (i + 1) (by omega) _ _ _ (by simp only [knL, ← hp]; simp [c_15, c_26])
        · skip
          refine aw_aload_0 hX dX4_asKnown_29 ?_
          refine ag_X4_told hX fl_X4_18 dX4_asKnown_30 ?_
          refine aw_iload_5 hX dX4_asKnown_33 ?_
          refine aw_iald hX dX4_asKnown_35 rfl (by decide) (by omega) ?_
          refine aw_iload_2 hX dX4_asKnown_36 ?_
          first | with_reducible refine aw_icmpgtN hX (tgt := 55) dX4_asKnown_37 (by decide) (by omega) (by omega) (fun c_37 => ?_) (fun c_37 => ?_) | refine aw_jgt hX (tgt := 55) dX4_asKnown_37 (by decide) (fun c_37 => ?_) (fun c_37 => ?_)
          · skip
            refine aw_iconst hX (v := nI 0) (by decide) dX4_asKnown_55 ?_
            refine aw_istore_6 hX rfl (by decide) dX4_asKnown_56 ?_
            refine aw_iload_6 hX dX4_asKnown_58 ?_
            refine aw_ifeq hX (tgt := 92) dX4_asKnown_60 (by decide) (fun _ => ?_) (fun c => absurd c (by decide))
            first | with_reducible refine aw_iinc_5N hX rfl (by decide) dX4_asKnown_92 ?_ | refine aw_iinc_5 hX rfl (by decide) dX4_asKnown_92 ?_
            refine aw_goto hX (tgt := 9) dX4_asKnown_95 (by decide) ?_
            exact ih (i + 1) (by omega) _ _ _ (by simp only [knL, ← hp]; simp [c_15, c_26, c_37])
          · skip
            refine aw_aload_0 hX dX4_asKnown_40 ?_
            refine ag_X4_day hX fl_X4_15 dX4_asKnown_41 ?_
            refine aw_iload_5 hX dX4_asKnown_44 ?_
            refine aw_iald hX dX4_asKnown_46 rfl (by decide) (by omega) ?_
            refine aw_iload_2 hX dX4_asKnown_47 ?_
            first | with_reducible refine aw_icmpgtN hX (tgt := 55) dX4_asKnown_48 (by decide) (by omega) (by omega) (fun c_48 => ?_) (fun c_48 => ?_) | refine aw_jgt hX (tgt := 55) dX4_asKnown_48 (by decide) (fun c_48 => ?_) (fun c_48 => ?_)
            · skip
              refine aw_iconst hX (v := nI 0) (by decide) dX4_asKnown_55 ?_
              refine aw_istore_6 hX rfl (by decide) dX4_asKnown_56 ?_
              refine aw_iload_6 hX dX4_asKnown_58 ?_
              refine aw_ifeq hX (tgt := 92) dX4_asKnown_60 (by decide) (fun _ => ?_) (fun c => absurd c (by decide))
              first | with_reducible refine aw_iinc_5N hX rfl (by decide) dX4_asKnown_92 ?_ | refine aw_iinc_5 hX rfl (by decide) dX4_asKnown_92 ?_
              refine aw_goto hX (tgt := 9) dX4_asKnown_95 (by decide) ?_
              exact ih (i + 1) (by omega) _ _ _ (by simp only [knL, ← hp]; simp [c_15, c_26, c_37, c_48])
            · skip
              refine aw_iconst hX (v := nI 1) (by decide) dX4_asKnown_51 ?_
              refine aw_goto hX (tgt := 56) dX4_asKnown_52 (by decide) ?_
              refine aw_istore_6 hX rfl (by decide) dX4_asKnown_56 ?_
              refine aw_iload_6 hX dX4_asKnown_58 ?_
              refine aw_ifeq hX (tgt := 92) dX4_asKnown_60 (by decide) (fun c => absurd c (by decide)) (fun _ => ?_)
              refine aw_aload_0 hX dX4_asKnown_63 ?_
              refine ag_X4_day hX fl_X4_15 dX4_asKnown_64 ?_
              refine aw_iload_5 hX dX4_asKnown_67 ?_
              refine aw_iald hX dX4_asKnown_69 rfl (by decide) (by omega) ?_
              refine aw_iload_4 hX dX4_asKnown_70 ?_
              first | with_reducible refine aw_icmpltN hX (tgt := 92) dX4_asKnown_72 (by decide) (by omega) (by omega) (fun c_72 => ?_) (fun c_72 => ?_) | refine aw_jlt hX (tgt := 92) dX4_asKnown_72 (by decide) (fun c_72 => ?_) (fun c_72 => ?_)
              · skip
                first | with_reducible refine aw_iinc_5N hX rfl (by decide) dX4_asKnown_92 ?_ | refine aw_iinc_5 hX rfl (by decide) dX4_asKnown_92 ?_
                refine aw_goto hX (tgt := 9) dX4_asKnown_95 (by decide) ?_
                exact ih (i + 1) (by omega) _ _ _ (by simp only [knL, ← hp]; simp [c_15, c_26, c_37, c_48, c_72])
              · skip
                refine aw_aload_0 hX dX4_asKnown_75 ?_
                refine ag_X4_finding hX fl_X4_21 dX4_asKnown_76 ?_
                refine aw_iload_5 hX dX4_asKnown_79 ?_
                refine aw_iald hX dX4_asKnown_81 rfl (by decide) (by omega) ?_
                refine aw_istore_3 hX rfl (by decide) dX4_asKnown_82 ?_
                refine aw_aload_0 hX dX4_asKnown_83 ?_
                refine ag_X4_day hX fl_X4_15 dX4_asKnown_84 ?_
                refine aw_iload_5 hX dX4_asKnown_87 ?_
                refine aw_iald hX dX4_asKnown_89 rfl (by decide) (by omega) ?_
                refine aw_istore_4 hX rfl (by decide) dX4_asKnown_90 ?_
                first | with_reducible refine aw_iinc_5N hX rfl (by decide) dX4_asKnown_92 ?_ | refine aw_iinc_5 hX rfl (by decide) dX4_asKnown_92 ?_
                refine aw_goto hX (tgt := 9) dX4_asKnown_95 (by decide) ?_
                exact ih (i + 1) (by omega) _ _ _ (by simp only [knL, ← hp]; simp [c_15, c_26, c_37, c_48, c_72])
  refine aw_bipush hX (v := (-9)) (by decide) dX4_asKnown_0 ?_
  refine aw_istore_3 hX rfl (by decide) dX4_asKnown_2 ?_
  refine aw_iconst hX (v := (-1)) (by decide) dX4_asKnown_3 ?_
  refine aw_istore_4 hX rfl (by decide) dX4_asKnown_4 ?_
  refine aw_iconst hX (v := nI 0) (by decide) dX4_asKnown_6 ?_
  refine aw_istore_5 hX rfl (by decide) dX4_asKnown_7 ?_
  exact loop (S.1 8) 0 (by omega) _ _ _ rfl
set_option maxHeartbeats 4000000 in
set_option maxRecDepth 100000 in
theorem m_X3_inForce (d : Nat) (G : GT) (S : St) (day : Int32) (hs : S.1 6 ≤ 6) : rX3_inForce G (d + 1) [.ref (gad G 2), .int day] S (some (.int (oN (infL (S.2.1 14) day (S.1 6))))) S := by
  refine runs_I (d := d) (by decide) (Nat.le_of_ble_eq_true rfl) (fun X (hX : XC X G d RX3 cX3_inForce 3) hR => ?_)
  show AW X G 0 [.ref (gad G 2), .int day, .null] [] S
  have loop : ∀ n : Nat, n ≤ S.1 6 → infL (S.2.1 14) day n = infL (S.2.1 14) day (S.1 6) → AW X G 7 [.ref (gad G 2), .int day, .int (nI n - nI 1)] [] S := by
    intro n
    induction n with
    | zero =>
      intro hn hp
      refine aw_iload_2 hX dX3_inForce_7 ?_
      refine aw_iflt hX (tgt := 29) dX3_inForce_8 (by decide) (fun c_8 => ?_) (fun c_8 => ?_)
      · skip
        refine aw_bipush hX (v := (-9)) (by decide) dX3_inForce_29 ?_
        refine aw_finI (hR _ _ dX3_inForce_31) ?_ ?_
        · rw [← hp]; rfl
        · rfl
      · exact absurd (by decide) c_8
    | succ n ih =>
      intro hn hp
      rw [np1]
      refine aw_iload_2 hX dX3_inForce_7 ?_
      refine aw_iflt hX (tgt := 29) dX3_inForce_8 (by decide) (fun c_8 => ?_) (fun c_8 => ?_)
      · exact absurd c_8 (nI_pos (by omega))
      · skip
        refine aw_aload_0 hX dX3_inForce_11 ?_
        refine ag_X3_told hX fl_X3_11 dX3_inForce_12 ?_
        refine aw_iload_2 hX dX3_inForce_15 ?_
        refine aw_iald hX dX3_inForce_16 rfl (by decide) (by omega) ?_
        refine aw_iload_1 hX dX3_inForce_17 ?_
        first | with_reducible refine aw_icmpgtN hX (tgt := 23) dX3_inForce_18 (by decide) (by omega) (by omega) (fun c_18 => ?_) (fun c_18 => ?_) | refine aw_jgt hX (tgt := 23) dX3_inForce_18 (by decide) (fun c_18 => ?_) (fun c_18 => ?_)
        · skip
          refine aw_iinc_2 hX rfl (by decide) dX3_inForce_23 ?_
          refine aw_goto hX (tgt := 7) dX3_inForce_26 (by decide) ?_
          rw [nm1]; exact ih (by omega) (by rw [← hp]; simp [infL, c_8, c_18])
        · skip
          refine aw_iload_2 hX dX3_inForce_21 ?_
          refine aw_finI (hR _ _ dX3_inForce_22) ?_ ?_
          · rw [← hp]; simp [infL, oN, c_8, c_18]
          · rfl
  refine aw_aload_0 hX dX3_inForce_0 ?_
  refine ag_X3_size hX fl_X3_29 dX3_inForce_1 ?_
  refine aw_iconst hX (v := nI 1) (by decide) dX3_inForce_4 ?_
  refine aw_isub hX dX3_inForce_5 ?_
  refine aw_istore_2 hX rfl (by decide) dX3_inForce_6 ?_
  exact loop (S.1 6) (Nat.le_refl _) rfl
set_option maxHeartbeats 4000000 in
set_option maxRecDepth 100000 in
theorem m_X5_latest (d : Nat) (G : GT) (S : St) (f day : Int32) (hs : S.1 10 ≤ 100) : rX5_latest G (d + 1) [.ref (gad G 6), .int f, .int day] S (some (.int (oN (laL (S.2.1 36) (S.2.1 37) f day (S.1 10))))) S := by
  refine runs_I (d := d) (by decide) (Nat.le_of_ble_eq_true rfl) (fun X (hX : XC X G d RX5 cX5_latest 4) hR => ?_)
  show AW X G 0 [.ref (gad G 6), .int f, .int day, .null] [] S
  have loop : ∀ n : Nat, n ≤ S.1 10 → laL (S.2.1 36) (S.2.1 37) f day n = laL (S.2.1 36) (S.2.1 37) f day (S.1 10) → AW X G 7 [.ref (gad G 6), .int f, .int day, .int (nI n - nI 1)] [] S := by
    intro n
    induction n with
    | zero =>
      intro hn hp
      refine aw_iload_3 hX dX5_latest_7 ?_
      refine aw_iflt hX (tgt := 39) dX5_latest_8 (by decide) (fun c_8 => ?_) (fun c_8 => ?_)
      · skip
        refine aw_bipush hX (v := (-9)) (by decide) dX5_latest_39 ?_
        refine aw_finI (hR _ _ dX5_latest_41) ?_ ?_
        · rw [← hp]; rfl
        · rfl
      · exact absurd (by decide) c_8
    | succ n ih =>
      intro hn hp
      rw [np1]
      refine aw_iload_3 hX dX5_latest_7 ?_
      refine aw_iflt hX (tgt := 39) dX5_latest_8 (by decide) (fun c_8 => ?_) (fun c_8 => ?_)
      · exact absurd c_8 (nI_pos (by omega))
      · skip
        refine aw_aload_0 hX dX5_latest_11 ?_
        refine ag_X5_flue hX fl_X5_11 dX5_latest_12 ?_
        refine aw_iload_3 hX dX5_latest_15 ?_
        refine aw_iald hX dX5_latest_16 rfl (by decide) (by omega) ?_
        refine aw_iload_1 hX dX5_latest_17 ?_
        first | with_reducible refine aw_icmpneN hX (tgt := 33) dX5_latest_18 (by decide) (by omega) (by omega) (fun c_18 => ?_) (fun c_18 => ?_) | refine aw_icmpne hX (tgt := 33) dX5_latest_18 (by decide) (fun c_18 => ?_) (fun c_18 => ?_)
        · skip
          refine aw_iinc_3 hX rfl (by decide) dX5_latest_33 ?_
          refine aw_goto hX (tgt := 7) dX5_latest_36 (by decide) ?_
          rw [nm1]; exact ih (by omega) (by rw [← hp]; simp [laL, c_8, c_18])
        · skip
          refine aw_aload_0 hX dX5_latest_21 ?_
          refine ag_X5_day hX fl_X5_15 dX5_latest_22 ?_
          refine aw_iload_3 hX dX5_latest_25 ?_
          refine aw_iald hX dX5_latest_26 rfl (by decide) (by omega) ?_
          refine aw_iload_2 hX dX5_latest_27 ?_
          first | with_reducible refine aw_icmpgtN hX (tgt := 33) dX5_latest_28 (by decide) (by omega) (by omega) (fun c_28 => ?_) (fun c_28 => ?_) | refine aw_jgt hX (tgt := 33) dX5_latest_28 (by decide) (fun c_28 => ?_) (fun c_28 => ?_)
          · skip
            refine aw_iinc_3 hX rfl (by decide) dX5_latest_33 ?_
            refine aw_goto hX (tgt := 7) dX5_latest_36 (by decide) ?_
            rw [nm1]; exact ih (by omega) (by rw [← hp]; simp [laL, c_8, c_18, c_28])
          · skip
            refine aw_iload_3 hX dX5_latest_31 ?_
            refine aw_finI (hR _ _ dX5_latest_32) ?_ ?_
            · rw [← hp]; simp [laL, oN, c_8, c_18, c_28]
            · rfl
  refine aw_aload_0 hX dX5_latest_0 ?_
  refine ag_X5_size hX fl_X5_24 dX5_latest_1 ?_
  refine aw_iconst hX (v := nI 1) (by decide) dX5_latest_4 ?_
  refine aw_isub hX dX5_latest_5 ?_
  refine aw_istore_3 hX rfl (by decide) dX5_latest_6 ?_
  exact loop (S.1 10) (Nat.le_refl _) rfl
set_option maxHeartbeats 4000000 in
set_option maxRecDepth 100000 in
theorem m_X5_earnedBy (d : Nat) (G : GT) (S : St) (h : Int32) (hs : S.1 10 ≤ 100) : rX5_earnedBy G (d + 1) [.ref (gad G 6), .int h] S (some (.int (erL (S.2.1 38) (S.2.1 39) h (S.1 10)))) S := by
  refine runs_I (d := d) (by decide) (Nat.le_of_ble_eq_true rfl) (fun X (hX : XC X G d RX5 cX5_earnedBy 4) hR => ?_)
  show AW X G 0 [.ref (gad G 6), .int h, .null, .null] [] S
  have loop : ∀ n i : Nat, i + n = S.1 10 → ∀ (v : Int32), v = erL (S.2.1 38) (S.2.1 39) h i → AW X G 4 [.ref (gad G 6), .int h, .int v, .int (nI i)] [] S := by
    intro n
    induction n with
    | zero =>
      intro i hi v hp
      refine aw_iload_3 hX dX5_earnedBy_4 ?_
      refine aw_aload_0 hX dX5_earnedBy_5 ?_
      refine ag_X5_size hX fl_X5_24 dX5_earnedBy_6 ?_
      first | with_reducible refine aw_icmpgeN hX (tgt := 37) dX5_earnedBy_9 (by decide) (by omega) (by omega) (fun c_9 => ?_) (fun c_9 => ?_) | refine aw_jge hX (tgt := 37) dX5_earnedBy_9 (by decide) (fun c_9 => ?_) (fun c_9 => ?_)
      · skip
        refine aw_iload_2 hX dX5_earnedBy_37 ?_
        refine aw_finI (hR _ _ dX5_earnedBy_38) ?_ ?_
        · rw [show S.1 10 = i by omega, ← hp]
        · rfl
      · exact absurd c_9 (by omega)
    | succ n ih =>
      intro i hi v hp
      refine aw_iload_3 hX dX5_earnedBy_4 ?_
      refine aw_aload_0 hX dX5_earnedBy_5 ?_
      refine ag_X5_size hX fl_X5_24 dX5_earnedBy_6 ?_
      first | with_reducible refine aw_icmpgeN hX (tgt := 37) dX5_earnedBy_9 (by decide) (by omega) (by omega) (fun c_9 => ?_) (fun c_9 => ?_) | refine aw_jge hX (tgt := 37) dX5_earnedBy_9 (by decide) (fun c_9 => ?_) (fun c_9 => ?_)
      · exact absurd c_9 (by omega)
      · skip
        refine aw_aload_0 hX dX5_earnedBy_12 ?_
        refine ag_X5_hand hX fl_X5_18 dX5_earnedBy_13 ?_
        refine aw_iload_3 hX dX5_earnedBy_16 ?_
        refine aw_iald hX dX5_earnedBy_17 rfl (by decide) (by omega) ?_
        refine aw_iload_1 hX dX5_earnedBy_18 ?_
        first | with_reducible refine aw_icmpneN hX (tgt := 31) dX5_earnedBy_19 (by decide) (by omega) (by omega) (fun c_19 => ?_) (fun c_19 => ?_) | refine aw_icmpne hX (tgt := 31) dX5_earnedBy_19 (by decide) (fun c_19 => ?_) (fun c_19 => ?_)
        · skip
          first | with_reducible refine aw_iinc_3N hX rfl (by decide) dX5_earnedBy_31 ?_ | refine aw_iinc_3 hX rfl (by decide) dX5_earnedBy_31 ?_
          refine aw_goto hX (tgt := 4) dX5_earnedBy_34 (by decide) ?_
          exact ih (i + 1) (by omega) _ (by simp only [erL, ← hp]; simp [c_9, c_19]; try decide)
        · skip
          refine aw_iload_2 hX dX5_earnedBy_22 ?_
          refine aw_aload_0 hX dX5_earnedBy_23 ?_
          refine ag_X5_fee hX fl_X5_21 dX5_earnedBy_24 ?_
          refine aw_iload_3 hX dX5_earnedBy_27 ?_
          refine aw_iald hX dX5_earnedBy_28 rfl (by decide) (by omega) ?_
          first | with_reducible refine aw_iaddN hX dX5_earnedBy_29 ?_ | refine aw_iadd hX dX5_earnedBy_29 ?_
          refine aw_istore_2 hX rfl (by decide) dX5_earnedBy_30 ?_
          first | with_reducible refine aw_iinc_3N hX rfl (by decide) dX5_earnedBy_31 ?_ | refine aw_iinc_3 hX rfl (by decide) dX5_earnedBy_31 ?_
          refine aw_goto hX (tgt := 4) dX5_earnedBy_34 (by decide) ?_
          exact ih (i + 1) (by omega) _ (by simp only [erL, ← hp]; simp [c_9, c_19]; try decide)
  refine aw_iconst hX (v := nI 0) (by decide) dX5_earnedBy_0 ?_
  refine aw_istore_2 hX rfl (by decide) dX5_earnedBy_1 ?_
  refine aw_iconst hX (v := nI 0) (by decide) dX5_earnedBy_2 ?_
  refine aw_istore_3 hX rfl (by decide) dX5_earnedBy_3 ?_
  exact loop (S.1 10) 0 (by omega) _ rfl
set_option maxHeartbeats 4000000 in
set_option maxRecDepth 100000 in
theorem m_X5_doneBy (d : Nat) (G : GT) (S : St) (h : Int32) (hs : S.1 10 ≤ 100) : rX5_doneBy G (d + 1) [.ref (gad G 6), .int h] S (some (.int (erL (S.2.1 38) (fun _ => nI 1) h (S.1 10)))) S := by
  refine runs_I (d := d) (by decide) (Nat.le_of_ble_eq_true rfl) (fun X (hX : XC X G d RX5 cX5_doneBy 4) hR => ?_)
  show AW X G 0 [.ref (gad G 6), .int h, .null, .null] [] S
  have loop : ∀ n i : Nat, i + n = S.1 10 → ∀ (v : Int32), v = erL (S.2.1 38) (fun _ => nI 1) h i → AW X G 4 [.ref (gad G 6), .int h, .int v, .int (nI i)] [] S := by
    intro n
    induction n with
    | zero =>
      intro i hi v hp
      refine aw_iload_3 hX dX5_doneBy_4 ?_
      refine aw_aload_0 hX dX5_doneBy_5 ?_
      refine ag_X5_size hX fl_X5_24 dX5_doneBy_6 ?_
      first | with_reducible refine aw_icmpgeN hX (tgt := 31) dX5_doneBy_9 (by decide) (by omega) (by omega) (fun c_9 => ?_) (fun c_9 => ?_) | refine aw_jge hX (tgt := 31) dX5_doneBy_9 (by decide) (fun c_9 => ?_) (fun c_9 => ?_)
      · skip
        refine aw_iload_2 hX dX5_doneBy_31 ?_
        refine aw_finI (hR _ _ dX5_doneBy_32) ?_ ?_
        · rw [show S.1 10 = i by omega, ← hp]
        · rfl
      · exact absurd c_9 (by omega)
    | succ n ih =>
      intro i hi v hp
      refine aw_iload_3 hX dX5_doneBy_4 ?_
      refine aw_aload_0 hX dX5_doneBy_5 ?_
      refine ag_X5_size hX fl_X5_24 dX5_doneBy_6 ?_
      first | with_reducible refine aw_icmpgeN hX (tgt := 31) dX5_doneBy_9 (by decide) (by omega) (by omega) (fun c_9 => ?_) (fun c_9 => ?_) | refine aw_jge hX (tgt := 31) dX5_doneBy_9 (by decide) (fun c_9 => ?_) (fun c_9 => ?_)
      · exact absurd c_9 (by omega)
      · skip
        refine aw_aload_0 hX dX5_doneBy_12 ?_
        refine ag_X5_hand hX fl_X5_18 dX5_doneBy_13 ?_
        refine aw_iload_3 hX dX5_doneBy_16 ?_
        refine aw_iald hX dX5_doneBy_17 rfl (by decide) (by omega) ?_
        refine aw_iload_1 hX dX5_doneBy_18 ?_
        first | with_reducible refine aw_icmpneN hX (tgt := 25) dX5_doneBy_19 (by decide) (by omega) (by omega) (fun c_19 => ?_) (fun c_19 => ?_) | refine aw_icmpne hX (tgt := 25) dX5_doneBy_19 (by decide) (fun c_19 => ?_) (fun c_19 => ?_)
        · skip
          first | with_reducible refine aw_iinc_3N hX rfl (by decide) dX5_doneBy_25 ?_ | refine aw_iinc_3 hX rfl (by decide) dX5_doneBy_25 ?_
          refine aw_goto hX (tgt := 4) dX5_doneBy_28 (by decide) ?_
          exact ih (i + 1) (by omega) _ (by simp only [erL, ← hp]; simp [c_9, c_19]; try decide)
        · skip
          first | with_reducible refine aw_iinc_2N hX rfl (by decide) dX5_doneBy_22 ?_ | refine aw_iinc_2 hX rfl (by decide) dX5_doneBy_22 ?_
          first | with_reducible refine aw_iinc_3N hX rfl (by decide) dX5_doneBy_25 ?_ | refine aw_iinc_3 hX rfl (by decide) dX5_doneBy_25 ?_
          refine aw_goto hX (tgt := 4) dX5_doneBy_28 (by decide) ?_
          exact ih (i + 1) (by omega) _ (by simp only [erL, ← hp]; simp [c_9, c_19]; try decide)
  refine aw_iconst hX (v := nI 0) (by decide) dX5_doneBy_0 ?_
  refine aw_istore_2 hX rfl (by decide) dX5_doneBy_1 ?_
  refine aw_iconst hX (v := nI 0) (by decide) dX5_doneBy_2 ?_
  refine aw_istore_3 hX rfl (by decide) dX5_doneBy_3 ?_
  exact loop (S.1 10) 0 (by omega) _ rfl
