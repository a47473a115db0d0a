def hasB (f : Int32) (n : Nat) : Bool := decide (nI 0 ≤ f) && !decide (nI n ≤ f)
theorem hasB_of {f : Int32} {n : Nat} (h : hasB f n = true) (hn : n < 2 ^ 31) : ∃ i : Nat, f = nI i ∧ i < n := by
  simp only [hasB, Bool.and_eq_true, decide_eq_true_eq, Bool.not_eq_true', decide_eq_false_iff_not] at h
  have h0 : ¬ f < 0 := i_le h.1
  obtain ⟨j, hj, rfl⟩ := nI_of h0
  refine ⟨j, rfl, ?_⟩
  have := h.2
  rw [nI_leI hn hj] at this
  omega
theorem hasB_t {i n : Nat} (h : i < n) (hn : n < 2 ^ 31) : hasB (nI i) n = true := by
  simp only [hasB, Bool.and_eq_true, decide_eq_true_eq, Bool.not_eq_true', decide_eq_false_iff_not, nI_leI (show 0 < 2 ^ 31 by decide) (show i < 2 ^ 31 by omega), nI_leI hn (show i < 2 ^ 31 by omega)]
  omega
theorem m_X2_has_b (d : Nat) (G : GT) (S : St) (f : Int32) (b : Bool) (hs : S.1 7 ≤ 12) (h : hasB f (S.1 7) = b) : rX2_has G (d + 1) [.ref (gad G 3), .int f] S (some (.int (bI b))) S := by
  subst h; exact m_X2_has d G S f hs
theorem m_X1_has_b (d : Nat) (G : GT) (S : St) (f : Int32) (b : Bool) (hs : S.1 9 ≤ 10) (h : hasB f (S.1 9) = b) : rX1_has G (d + 1) [.ref (gad G 5), .int f] S (some (.int (bI b))) S := by
  subst h; exact m_X1_has d G S f hs
theorem m_X7_within_b (d : Nat) (G : GT) (S : St) (v lo hi : Int32) (b : Bool) (h : inR v lo hi = b) : rX7_within G (d + 1) [.int v, .int lo, .int hi] S (some (.int (bI b))) S := by
  subst h; exact m_X7_within d G S v lo hi
theorem m_X8_in_b (d : Nat) (G : GT) (S : St) (v lo hi : Int32) (b : Bool) (h : inR v lo hi = b) : rX8_in G (d + 1) [.int v, .int lo, .int hi] S (some (.int (bI b))) S := by
  subst h; exact m_X8_in d G S v lo hi
theorem m_X7_isHand_b (d : Nat) (G : GT) (S : St) (v : Int32) (b : Bool) (h : inR v (nI 0) (nI 3) = b) : rX7_isHand G (d + 2) [.int v] S (some (.int (bI b))) S := by
  subst h; exact m_X7_isHand d G S v
theorem m_X8_isHand_b (d : Nat) (G : GT) (S : St) (v : Int32) (b : Bool) (h : inR v (nI 0) (nI 3) = b) : rX8_isHand G (d + 2) [.int v] S (some (.int (bI b))) S := by
  subst h; exact m_X8_isHand d G S v
def pulR (S : St) (i k : Nat) : Int32 := S.2.1 21 i * gpull k / S.2.1 22 i
def mx0 (z : Int32) : Int32 := if nI 0 < z then z else nI 0
def swX (S : St) (i : Nat) (day : Int32) : Int32 := match laL (S.2.1 36) (S.2.1 37) (nI i) day (S.1 10) with
  | none => S.2.1 27 i
  | some k => S.2.1 37 k
def swhX (S : St) (i : Nat) (day : Int32) : Int32 := match laL (S.2.1 36) (S.2.1 37) (nI i) day (S.1 10) with
  | none => -9
  | some k => S.2.1 38 k
def duO (nl : Nat) (td st ff sp fr : Nat → Int32) (fuel : Int32) (w : Nat) : Nat := w + fdL (fun j => decide (spO nl td st ff sp fr fuel (nI (w + j)) ≤ nI j)) 199 1
def duX (S : St) (fuel : Int32) (w : Nat) : Nat := duO (S.1 6) (S.2.1 14) (S.2.1 15) (S.2.1 16) (S.2.1 17) (S.2.1 18) fuel w
def knX (S : St) (f day : Int32) : Int32 := (knL (S.2.1 30) (S.2.1 31) (S.2.1 32) (S.2.1 33) f day (S.1 8)).1
def foX (S : St) (i : Nat) : Bool := decide (nI 3 ≤ S.2.1 28 i) || decide (knX S (nI i) (nI (S.1 0)) = 0)
def liL (il : Nat → Int32) : Nat → Nat → Int32
  | 0, _ => -9
  | n + 1, h => if il h = 0 then nI h else liL il n (h + 1)
def nhL (x y hd il : Nat → Int32) (i : Nat) : Nat → Int32 × Int32
  | 0 => (-9, nI 1000000)
  | n + 1 => if il (tn (hd n)) = 0 ∧ (¬ (nhL x y hd il i n).2 ≤ wyR x y i n ∨ (wyR x y i n = (nhL x y hd il i n).2 ∧ ¬ (nhL x y hd il i n).1 ≤ hd n)) then (hd n, wyR x y i n) else nhL x y hd il i n
def doO (n : Nat) (x y hd il : Nat → Int32) (i : Nat) : Int32 := if il (tn (hd i)) = 0 then hd i else if (nhL x y hd il i n).1 = -9 then liL il 4 0 else (nhL x y hd il i n).1
def doX (S : St) (i : Nat) : Int32 := doO (S.1 7) (S.2.1 24) (S.2.1 25) (S.2.1 26) (S.2.1 9) i
def HdOK (n : Nat) (hd : Nat → Int32) : Prop := ∀ j, j < n → hd j = nI (tn (hd j)) ∧ tn (hd j) < 4
def BkOK (S : St) : Prop := S.1 6 ≤ 6 ∧ StOK (S.1 6) (S.2.1 15)
set_option maxHeartbeats 4000000 in
set_option maxRecDepth 100000 in
theorem m_X7_straightPull (d : Nat) (G : GT) (S : St) (i k : Nat) (hi : i < 12) (hw : ¬ S.2.1 22 i ≤ 0) (hk : S.2.1 20 i = nI k) (hk3 : k < 3) : rX7_straightPull G (d + 2) [.ref (gad G 0), .int (nI i)] S (some (.int (pulR S i k))) (sL S 0 (S.2.2.1 0 + 1)) := by
  refine runs_I (d := (d + 1)) (by decide) (Nat.le_of_ble_eq_true rfl) (fun X (hX : XC X G (d + 1) RX7 cX7_straightPull 2) hR => ?_)
  show AW X G 0 [.ref (gad G 0), .int (nI i)] [] S
  refine aw_aload_0 hX dX7_straightPull_0 ?_
  refine aw_dup hX rfl dX7_straightPull_1 ?_
  refine ag_X7_asked hX fl_X7_69 dX7_straightPull_2 ?_
  refine aw_lconst hX (v := 1) (by decide) dX7_straightPull_5 ?_
  refine aw_ladd hX dX7_straightPull_6 ?_
  refine ap_X7_asked hX fl_X7_69 dX7_straightPull_7 ?_
  refine aw_aload_0 hX dX7_straightPull_10 ?_
  refine ag_X7_flues hX fl_X7_26 dX7_straightPull_11 ?_
  try simp only [sN_N, sN_A, sN_L, sN_R, sA_N, sA_A, sA_L, sA_R, sL_N, sL_A, sL_L, sL_R, sR_N, sR_A, sR_L, sR_R, reduceIte]
  refine aw_iload_1 hX dX7_straightPull_14 ?_
  refine cv_X2_openPull hX ml_X7_247 dX7_straightPull_15 (m_X2_openPull d G _ i k hi hw hk hk3) (Nat.le_of_ble_eq_true rfl) ?_
  refine aw_finI (hR _ _ dX7_straightPull_18) ?_ ?_
  · rfl
  · rfl
set_option maxHeartbeats 4000000 in
set_option maxRecDepth 100000 in
theorem m_X7_bentPull (d : Nat) (G : GT) (S : St) (i k : Nat) (hi : i < 12) (hw : ¬ S.2.1 22 i ≤ 0) (hk : S.2.1 20 i = nI k) (hk3 : k < 3) : rX7_bentPull G (d + 3) [.ref (gad G 0), .int (nI i)] S (some (.int (mx0 (pulR S i k - nI 2 * S.2.1 23 i)))) (sL S 0 (S.2.2.1 0 + 10 + 1)) := by
  refine runs_I (d := (d + 2)) (by decide) (Nat.le_of_ble_eq_true rfl) (fun X (hX : XC X G (d + 2) RX7 cX7_bentPull 2) hR => ?_)
  show AW X G 0 [.ref (gad G 0), .int (nI i)] [] S
  refine aw_aload_0 hX dX7_bentPull_0 ?_
  refine aw_dup hX rfl dX7_bentPull_1 ?_
  refine ag_X7_asked hX fl_X7_69 dX7_bentPull_2 ?_
  refine aw_ldc2 hX kc_X7_250 dX7_bentPull_5 ?_
  refine aw_ladd hX dX7_bentPull_8 ?_
  refine ap_X7_asked hX fl_X7_69 dX7_bentPull_9 ?_
  refine aw_iconst hX (v := nI 0) (by decide) dX7_bentPull_12 ?_
  refine aw_aload_0 hX dX7_bentPull_13 ?_
  refine aw_iload_1 hX dX7_bentPull_14 ?_
  refine cv_X7_straightPull hX ml_X7_136 dX7_bentPull_15 (m_X7_straightPull d G _ i k hi hw hk hk3) (Nat.le_of_ble_eq_true rfl) ?_
  refine aw_iconst hX (v := nI 2) (by decide) dX7_bentPull_18 ?_
  refine aw_aload_0 hX dX7_bentPull_19 ?_
  refine ag_X7_flues hX fl_X7_26 dX7_bentPull_20 ?_
  try simp only [sN_N, sN_A, sN_L, sN_R, sA_N, sA_A, sA_L, sA_R, sL_N, sL_A, sL_L, sL_R, sR_N, sR_A, sR_L, sR_R, reduceIte]
  refine ag_X2_bends hX fl_X7_252 dX7_bentPull_23 ?_
  try simp only [sN_N, sN_A, sN_L, sN_R, sA_N, sA_A, sA_L, sA_R, sL_N, sL_A, sL_L, sL_R, sR_N, sR_A, sR_L, sR_R, reduceIte]
  refine aw_iload_1 hX dX7_bentPull_26 ?_
  refine aw_iald hX dX7_bentPull_27 rfl (by decide) (by omega) ?_
  try simp only [sN_N, sN_A, sN_L, sN_R, sA_N, sA_A, sA_L, sA_R, sL_N, sL_A, sL_L, sL_R, sR_N, sR_A, sR_L, sR_R, reduceIte]
  first | with_reducible refine aw_imulN hX dX7_bentPull_28 ?_ | refine aw_imul hX dX7_bentPull_28 ?_
  first | with_reducible refine aw_isubN hX (by omega) dX7_bentPull_29 ?_ | refine aw_isub hX dX7_bentPull_29 ?_
  refine aw_max hX ml_X7_255 dX7_bentPull_30 (Nat.le_of_ble_eq_true rfl) ?_
  refine aw_finI (hR _ _ dX7_bentPull_33) ?_ ?_
  · rfl
  · unfold sL; congr 3; funext j; by_cases h : j = 0 <;> simp [h]
set_option maxHeartbeats 4000000 in
set_option maxRecDepth 100000 in
theorem m_X7_sharedPull (d : Nat) (G : GT) (S : St) (i k : Nat) (hi : i < 12) (hw : ¬ S.2.1 22 i ≤ 0) (hk : S.2.1 20 i = nI k) (hk3 : k < 3) : rX7_sharedPull G (d + 4) [.ref (gad G 0), .int (nI i)] S (some (.int (mx0 (pulR S i k - nI 2 * S.2.1 23 i) / nI 2))) (sL S 0 (S.2.2.1 0 + 100 + 10 + 1)) := by
  refine runs_I (d := (d + 3)) (by decide) (Nat.le_of_ble_eq_true rfl) (fun X (hX : XC X G (d + 3) RX7 cX7_sharedPull 2) hR => ?_)
  show AW X G 0 [.ref (gad G 0), .int (nI i)] [] S
  refine aw_aload_0 hX dX7_sharedPull_0 ?_
  refine aw_dup hX rfl dX7_sharedPull_1 ?_
  refine ag_X7_asked hX fl_X7_69 dX7_sharedPull_2 ?_
  refine aw_ldc2 hX kc_X7_260 dX7_sharedPull_5 ?_
  refine aw_ladd hX dX7_sharedPull_8 ?_
  refine ap_X7_asked hX fl_X7_69 dX7_sharedPull_9 ?_
  refine aw_aload_0 hX dX7_sharedPull_12 ?_
  refine aw_iload_1 hX dX7_sharedPull_13 ?_
  refine cv_X7_bentPull hX ml_X7_140 dX7_sharedPull_14 (m_X7_bentPull d G _ i k hi hw hk hk3) (Nat.le_of_ble_eq_true rfl) ?_
  refine aw_iconst hX (v := nI 2) (by decide) dX7_sharedPull_17 ?_
  refine aw_idiv hX (by decide) dX7_sharedPull_18 ?_
  refine aw_finI (hR _ _ dX7_sharedPull_19) ?_ ?_
  · rfl
  · unfold sL; congr 3; funext j; by_cases h : j = 0 <;> simp [h]
set_option maxHeartbeats 4000000 in
set_option maxRecDepth 100000 in
theorem m_X7_sweptBy (d : Nat) (G : GT) (S : St) (i : Nat) (day : Int32) (hi : i < 12) (hs : S.1 10 ≤ 100) : rX7_sweptBy G (d + 2) [.ref (gad G 0), .int (nI i), .int day] S (some (.int (swX S i day))) S := by
  refine runs_I (d := (d + 1)) (by decide) (Nat.le_of_ble_eq_true rfl) (fun X (hX : XC X G (d + 1) RX7 cX7_sweptBy 4) hR => ?_)
  show AW X G 0 [.ref (gad G 0), .int (nI i), .int day, .null] [] S
  refine aw_aload_0 hX dX7_sweptBy_0 ?_
  refine ag_X7_sweeps hX fl_X7_47 dX7_sweptBy_1 ?_
  refine aw_iload_1 hX dX7_sweptBy_4 ?_
  refine aw_iload_2 hX dX7_sweptBy_5 ?_
  refine cv_X5_latest hX ml_X7_262 dX7_sweptBy_6 (m_X5_latest d G S _ _ hs) (Nat.le_of_ble_eq_true rfl) ?_
  cases hla : laL (S.2.1 36) (S.2.1 37) (nI i) day (S.1 10) with
  | none =>
    simp only [oN]
    refine aw_istore_3 hX rfl (by decide) dX7_sweptBy_9 ?_
    refine aw_iload_3 hX dX7_sweptBy_10 ?_
    refine aw_bipush hX (v := (-9)) (by decide) dX7_sweptBy_11 ?_
    first | with_reducible refine aw_icmpneN hX (tgt := 28) dX7_sweptBy_13 (by decide) (by omega) (by omega) (fun c_13 => ?_) (fun c_13 => ?_) | refine aw_icmpne hX (tgt := 28) dX7_sweptBy_13 (by decide) (fun c_13 => ?_) (fun c_13 => ?_)
    · exact absurd rfl c_13
    · skip
      refine aw_aload_0 hX dX7_sweptBy_16 ?_
      refine ag_X7_flues hX fl_X7_26 dX7_sweptBy_17 ?_
      refine ag_X2_came hX fl_X7_181 dX7_sweptBy_20 ?_
      refine aw_iload_1 hX dX7_sweptBy_23 ?_
      refine aw_iald hX dX7_sweptBy_24 rfl (by decide) (by omega) ?_
      refine aw_goto hX (tgt := 37) dX7_sweptBy_25 (by decide) ?_
      refine aw_finI (hR _ _ dX7_sweptBy_37) ?_ ?_
      · simp [swX, hla]
      · rfl
  | some k =>
    have hk := laL_lt hla
    simp only [oN]
    refine aw_istore_3 hX rfl (by decide) dX7_sweptBy_9 ?_
    refine aw_iload_3 hX dX7_sweptBy_10 ?_
    refine aw_bipush hX (v := (-9)) (by decide) dX7_sweptBy_11 ?_
    first | with_reducible refine aw_icmpneN hX (tgt := 28) dX7_sweptBy_13 (by decide) (by omega) (by omega) (fun c_13 => ?_) (fun c_13 => ?_) | refine aw_icmpne hX (tgt := 28) dX7_sweptBy_13 (by decide) (fun c_13 => ?_) (fun c_13 => ?_)
    · skip
      refine aw_aload_0 hX dX7_sweptBy_28 ?_
      refine ag_X7_sweeps hX fl_X7_47 dX7_sweptBy_29 ?_
      refine ag_X5_day hX fl_X7_265 dX7_sweptBy_32 ?_
      refine aw_iload_3 hX dX7_sweptBy_35 ?_
      refine aw_iald hX dX7_sweptBy_36 rfl (by decide) (by omega) ?_
      refine aw_finI (hR _ _ dX7_sweptBy_37) ?_ ?_
      · simp [swX, hla]
      · rfl
    · exact absurd c_13 (ne9 (by omega))
set_option maxHeartbeats 4000000 in
set_option maxRecDepth 100000 in
theorem m_X7_sweeperBy (d : Nat) (G : GT) (S : St) (i : Nat) (day : Int32) (hi : i < 12) (hs : S.1 10 ≤ 100) : rX7_sweeperBy G (d + 2) [.ref (gad G 0), .int (nI i), .int day] S (some (.int (swhX S i day))) S := by
  refine runs_I (d := (d + 1)) (by decide) (Nat.le_of_ble_eq_true rfl) (fun X (hX : XC X G (d + 1) RX7 cX7_sweeperBy 4) hR => ?_)
  show AW X G 0 [.ref (gad G 0), .int (nI i), .int day, .null] [] S
  refine aw_aload_0 hX dX7_sweeperBy_0 ?_
  refine ag_X7_sweeps hX fl_X7_47 dX7_sweeperBy_1 ?_
  refine aw_iload_1 hX dX7_sweeperBy_4 ?_
  refine aw_iload_2 hX dX7_sweeperBy_5 ?_
  refine cv_X5_latest hX ml_X7_262 dX7_sweeperBy_6 (m_X5_latest d G S _ _ hs) (Nat.le_of_ble_eq_true rfl) ?_
  cases hla : laL (S.2.1 36) (S.2.1 37) (nI i) day (S.1 10) with
  | none =>
    simp only [oN]
    refine aw_istore_3 hX rfl (by decide) dX7_sweeperBy_9 ?_
    refine aw_iload_3 hX dX7_sweeperBy_10 ?_
    refine aw_bipush hX (v := (-9)) (by decide) dX7_sweeperBy_11 ?_
    first | with_reducible refine aw_icmpneN hX (tgt := 21) dX7_sweeperBy_13 (by decide) (by omega) (by omega) (fun c_13 => ?_) (fun c_13 => ?_) | refine aw_icmpne hX (tgt := 21) dX7_sweeperBy_13 (by decide) (fun c_13 => ?_) (fun c_13 => ?_)
    · exact absurd rfl c_13
    · skip
      refine aw_bipush hX (v := (-9)) (by decide) dX7_sweeperBy_16 ?_
      refine aw_goto hX (tgt := 30) dX7_sweeperBy_18 (by decide) ?_
      refine aw_finI (hR _ _ dX7_sweeperBy_30) ?_ ?_
      · simp [swhX, hla]
      · rfl
  | some k =>
    have hk := laL_lt hla
    simp only [oN]
    refine aw_istore_3 hX rfl (by decide) dX7_sweeperBy_9 ?_
    refine aw_iload_3 hX dX7_sweeperBy_10 ?_
    refine aw_bipush hX (v := (-9)) (by decide) dX7_sweeperBy_11 ?_
    first | with_reducible refine aw_icmpneN hX (tgt := 21) dX7_sweeperBy_13 (by decide) (by omega) (by omega) (fun c_13 => ?_) (fun c_13 => ?_) | refine aw_icmpne hX (tgt := 21) dX7_sweeperBy_13 (by decide) (fun c_13 => ?_) (fun c_13 => ?_)
    · skip
      refine aw_aload_0 hX dX7_sweeperBy_21 ?_
      refine ag_X7_sweeps hX fl_X7_47 dX7_sweeperBy_22 ?_
      refine ag_X5_hand hX fl_X7_266 dX7_sweeperBy_25 ?_
      refine aw_iload_3 hX dX7_sweeperBy_28 ?_
      refine aw_iald hX dX7_sweeperBy_29 rfl (by decide) (by omega) ?_
      refine aw_finI (hR _ _ dX7_sweeperBy_30) ?_ ?_
      · simp [swhX, hla]
      · rfl
    · exact absurd c_13 (ne9 (by omega))
set_option maxHeartbeats 4000000 in
set_option maxRecDepth 100000 in
theorem m_X7_dueOf (d : Nat) (G : GT) (S : St) (i w : Nat) (hi : i < 12) (hs : S.1 10 ≤ 100) (hb : BkOK S) (hw : swX S i (nI (S.1 0)) = nI w) (hw5 : w ≤ 500) : rX7_dueOf G (d + 4) [.ref (gad G 0), .int (nI i)] S (some (.int (nI (duX S (S.2.1 20 i) w)))) S := by
  refine runs_I (d := (d + 3)) (by decide) (Nat.le_of_ble_eq_true rfl) (fun X (hX : XC X G (d + 3) RX7 cX7_dueOf 2) hR => ?_)
  show AW X G 0 [.ref (gad G 0), .int (nI i)] [] S
  refine aw_aload_0 hX dX7_dueOf_0 ?_
  refine ag_X7_book hX fl_X7_19 dX7_dueOf_1 ?_
  refine aw_aload_0 hX dX7_dueOf_4 ?_
  refine ag_X7_flues hX fl_X7_26 dX7_dueOf_5 ?_
  refine ag_X2_fuel hX fl_X7_146 dX7_dueOf_8 ?_
  refine aw_iload_1 hX dX7_dueOf_11 ?_
  refine aw_iald hX dX7_dueOf_12 rfl (by decide) (by omega) ?_
  refine aw_aload_0 hX dX7_dueOf_13 ?_
  refine aw_iload_1 hX dX7_dueOf_14 ?_
  refine aw_aload_0 hX dX7_dueOf_15 ?_
  refine ag_X7_today hX fl_X7_62 dX7_dueOf_16 ?_
  refine cv_X7_sweptBy hX ml_X7_155 dX7_dueOf_19 (m_X7_sweptBy (d + 1) G S i _ hi hs) (Nat.le_of_ble_eq_true rfl) ?_
  refine aw_ti hw ?_
  refine cv_X3_firstDue hX ml_X7_267 dX7_dueOf_22 (m_X3_firstDue d G S _ w hw5 hb.1 hb.2) (Nat.le_of_ble_eq_true rfl) ?_
  refine aw_finI (hR _ _ dX7_dueOf_25) ?_ ?_
  · rfl
  · rfl
set_option maxHeartbeats 4000000 in
set_option maxRecDepth 100000 in
theorem m_X7_wasBeyond (d : Nat) (G : GT) (S : St) (i w : Nat) (day : Int32) (hi : i < 12) (hs : S.1 10 ≤ 100) (hb : BkOK S) (hw : swX S i day = nI w) (hw5 : w ≤ 500) : rX7_wasBeyond G (d + 4) [.ref (gad G 0), .int (nI i), .int day] S (some (.int (bI (!decide (day ≤ nI (duX S (S.2.1 20 i) w)))))) S := by
  refine runs_Z (d := (d + 3)) (by decide) (Nat.le_of_ble_eq_true rfl) (fun X (hX : XC X G (d + 3) RX7 cX7_wasBeyond 3) hR => ?_)
  show AW X G 0 [.ref (gad G 0), .int (nI i), .int day] [] S
  refine aw_iload_2 hX dX7_wasBeyond_0 ?_
  refine aw_aload_0 hX dX7_wasBeyond_1 ?_
  refine ag_X7_book hX fl_X7_19 dX7_wasBeyond_2 ?_
  refine aw_aload_0 hX dX7_wasBeyond_5 ?_
  refine ag_X7_flues hX fl_X7_26 dX7_wasBeyond_6 ?_
  refine ag_X2_fuel hX fl_X7_146 dX7_wasBeyond_9 ?_
  refine aw_iload_1 hX dX7_wasBeyond_12 ?_
  refine aw_iald hX dX7_wasBeyond_13 rfl (by decide) (by omega) ?_
  refine aw_aload_0 hX dX7_wasBeyond_14 ?_
  refine aw_iload_1 hX dX7_wasBeyond_15 ?_
  refine aw_iload_2 hX dX7_wasBeyond_16 ?_
  refine cv_X7_sweptBy hX ml_X7_155 dX7_wasBeyond_17 (m_X7_sweptBy (d + 1) G S i _ hi hs) (Nat.le_of_ble_eq_true rfl) ?_
  refine aw_ti hw ?_
  refine cv_X3_firstDue hX ml_X7_267 dX7_wasBeyond_20 (m_X3_firstDue d G S _ w hw5 hb.1 hb.2) (Nat.le_of_ble_eq_true rfl) ?_
  first | with_reducible refine aw_icmpleN hX (tgt := 30) dX7_wasBeyond_23 (by decide) (by omega) (by omega) (fun c_23 => ?_) (fun c_23 => ?_) | refine aw_jle hX (tgt := 30) dX7_wasBeyond_23 (by decide) (fun c_23 => ?_) (fun c_23 => ?_)
  · replace c_23 : day ≤ nI (duX S (S.2.1 20 i) w) := c_23
    refine aw_iconst hX (v := nI 0) (by decide) dX7_wasBeyond_30 ?_
    refine aw_finI (hR _ _ dX7_wasBeyond_31) ?_ ?_
    · first | exact bF (by simp [c_23]) | exact bT (by simp [c_23])
    · rfl
  · replace c_23 : ¬ day ≤ nI (duX S (S.2.1 20 i) w) := c_23
    refine aw_iconst hX (v := nI 1) (by decide) dX7_wasBeyond_26 ?_
    refine aw_goto hX (tgt := 31) dX7_wasBeyond_27 (by decide) ?_
    refine aw_finI (hR _ _ dX7_wasBeyond_31) ?_ ?_
    · first | exact bF (by simp [c_23]) | exact bT (by simp [c_23])
    · rfl
set_option maxHeartbeats 4000000 in
set_option maxRecDepth 100000 in
theorem m_X7_isForbidden (d : Nat) (G : GT) (S : St) (i : Nat) (hi : i < 12) (h8 : S.1 8 ≤ 30) : rX7_isForbidden G (d + 2) [.ref (gad G 0), .int (nI i)] S (some (.int (bI (foX S i)))) S := by
  refine runs_Z (d := (d + 1)) (by decide) (Nat.le_of_ble_eq_true rfl) (fun X (hX : XC X G (d + 1) RX7 cX7_isForbidden 2) hR => ?_)
  show AW X G 0 [.ref (gad G 0), .int (nI i)] [] S
  refine aw_aload_0 hX dX7_isForbidden_0 ?_
  refine ag_X7_flues hX fl_X7_26 dX7_isForbidden_1 ?_
  refine ag_X2_refusals hX fl_X7_158 dX7_isForbidden_4 ?_
  refine aw_iload_1 hX dX7_isForbidden_7 ?_
  refine aw_iald hX dX7_isForbidden_8 rfl (by decide) (by omega) ?_
  refine aw_iconst hX (v := nI 3) (by decide) dX7_isForbidden_9 ?_
  refine aw_jge hX (tgt := 28) dX7_isForbidden_10 (by decide) (fun c_10 => ?_) (fun c_10 => ?_)
  · skip
    refine aw_iconst hX (v := nI 1) (by decide) dX7_isForbidden_28 ?_
    refine aw_goto hX (tgt := 33) dX7_isForbidden_29 (by decide) ?_
    refine aw_finI (hR _ _ dX7_isForbidden_33) ?_ ?_
    · first | exact bF (by simp [foX, c_10]) | exact bT (by simp [foX, c_10])
    · rfl
  · skip
    refine aw_aload_0 hX dX7_isForbidden_13 ?_
    refine ag_X7_looks hX fl_X7_33 dX7_isForbidden_14 ?_
    refine aw_iload_1 hX dX7_isForbidden_17 ?_
    refine aw_aload_0 hX dX7_isForbidden_18 ?_
    refine ag_X7_today hX fl_X7_62 dX7_isForbidden_19 ?_
    refine cv_X4_asKnown hX ml_X7_188 dX7_isForbidden_22 (m_X4_asKnown d G S _ _ h8) (Nat.le_of_ble_eq_true rfl) ?_
    first | with_reducible refine aw_ifneB hX (tgt := 32) dX7_isForbidden_25 (by decide) (fun c_25 => ?_) (fun c_25 => ?_) | refine aw_ifne hX (tgt := 32) dX7_isForbidden_25 (by decide) (fun c_25 => ?_) (fun c_25 => ?_)
    · replace c_25 : ¬ knX S (nI i) (nI (S.1 0)) = 0 := c_25
      refine aw_iconst hX (v := nI 0) (by decide) dX7_isForbidden_32 ?_
      refine aw_finI (hR _ _ dX7_isForbidden_33) ?_ ?_
      · first | exact bF (by simp [foX, c_10, c_25]) | exact bT (by simp [foX, c_10, c_25])
      · rfl
    · replace c_25 : knX S (nI i) (nI (S.1 0)) = 0 := c_25
      refine aw_iconst hX (v := nI 1) (by decide) dX7_isForbidden_28 ?_
      refine aw_goto hX (tgt := 33) dX7_isForbidden_29 (by decide) ?_
      refine aw_finI (hR _ _ dX7_isForbidden_33) ?_ ?_
      · first | exact bF (by simp [foX, c_10, c_25]) | exact bT (by simp [foX, c_10, c_25])
      · rfl
set_option maxHeartbeats 4000000 in
set_option maxRecDepth 100000 in
theorem m_X7_leastHandNotIll (d : Nat) (G : GT) (S : St)  : rX7_leastHandNotIll G (d + 1) [.ref (gad G 0)] S (some (.int (liL (S.2.1 9) 4 0))) S := by
  refine runs_I (d := d) (by decide) (Nat.le_of_ble_eq_true rfl) (fun X (hX : XC X G d RX7 cX7_leastHandNotIll 2) hR => ?_)
  show AW X G 0 [.ref (gad G 0), .null] [] S
  have loop : ∀ n i : Nat, i + n = 4 → liL (S.2.1 9) n i = liL (S.2.1 9) 4 0 → AW X G 2 [.ref (gad G 0), .int (nI i)] [] S := by
    intro n
    induction n with
    | zero =>
      intro i hi hp
      refine aw_iload_1 hX dX7_leastHandNotIll_2 ?_
      refine aw_iconst hX (v := nI 4) (by decide) dX7_leastHandNotIll_3 ?_
      first | with_reducible refine aw_icmpgeN hX (tgt := 24) dX7_leastHandNotIll_4 (by decide) (by omega) (by omega) (fun c_4 => ?_) (fun c_4 => ?_) | refine aw_jge hX (tgt := 24) dX7_leastHandNotIll_4 (by decide) (fun c_4 => ?_) (fun c_4 => ?_)
      · skip
        refine aw_bipush hX (v := (-9)) (by decide) dX7_leastHandNotIll_24 ?_
        refine aw_finI (hR _ _ dX7_leastHandNotIll_26) ?_ ?_
        · rw [← hp]; rfl
        · rfl
      · exact absurd c_4 (by omega)
    | succ n ih =>
      intro i hi hp
      refine aw_iload_1 hX dX7_leastHandNotIll_2 ?_
      refine aw_iconst hX (v := nI 4) (by decide) dX7_leastHandNotIll_3 ?_
      first | with_reducible refine aw_icmpgeN hX (tgt := 24) dX7_leastHandNotIll_4 (by decide) (by omega) (by omega) (fun c_4 => ?_) (fun c_4 => ?_) | refine aw_jge hX (tgt := 24) dX7_leastHandNotIll_4 (by decide) (fun c_4 => ?_) (fun c_4 => ?_)
      · exact absurd c_4 (by omega)
      · skip
        refine aw_aload_0 hX dX7_leastHandNotIll_7 ?_
        refine ag_X7_handIsIll hX fl_X7_58 dX7_leastHandNotIll_8 ?_
        refine aw_iload_1 hX dX7_leastHandNotIll_11 ?_
        refine aw_zald hX dX7_leastHandNotIll_12 rfl (by decide) (by omega) ?_
        first | with_reducible refine aw_ifneB hX (tgt := 18) dX7_leastHandNotIll_13 (by decide) (fun c_13 => ?_) (fun c_13 => ?_) | refine aw_ifne hX (tgt := 18) dX7_leastHandNotIll_13 (by decide) (fun c_13 => ?_) (fun c_13 => ?_)
        · skip
          first | with_reducible refine aw_iinc_1N hX rfl (by decide) dX7_leastHandNotIll_18 ?_ | refine aw_iinc_1 hX rfl (by decide) dX7_leastHandNotIll_18 ?_
          refine aw_goto hX (tgt := 2) dX7_leastHandNotIll_21 (by decide) ?_
          exact ih (i + 1) (by omega) (by rw [← hp]; simp [liL, c_4, c_13])
        · skip
          refine aw_iload_1 hX dX7_leastHandNotIll_16 ?_
          refine aw_finI (hR _ _ dX7_leastHandNotIll_17) ?_ ?_
          · rw [← hp]; simp [liL, c_4, c_13]
          · rfl
  refine aw_iconst hX (v := nI 0) (by decide) dX7_leastHandNotIll_0 ?_
  refine aw_istore_1 hX rfl (by decide) dX7_leastHandNotIll_1 ?_
  exact loop 4 0 (by omega) rfl
set_option maxHeartbeats 4000000 in
set_option maxRecDepth 100000 in
theorem m_X7_nearestHand (d : Nat) (G : GT) (S : St) (i : Nat) (hi : i < 12) (hs : S.1 7 ≤ 12) (hh : HdOK (S.1 7) (S.2.1 26)) : rX7_nearestHand G (d + 2) [.ref (gad G 0), .int (nI i)] S (some (.int ((nhL (S.2.1 24) (S.2.1 25) (S.2.1 26) (S.2.1 9) i (S.1 7)).1))) S := by
  refine runs_I (d := (d + 1)) (by decide) (Nat.le_of_ble_eq_true rfl) (fun X (hX : XC X G (d + 1) RX7 cX7_nearestHand 7) hR => ?_)
  show AW X G 0 [.ref (gad G 0), .int (nI i), .null, .null, .null, .null, .null] [] S
  have loop : ∀ n j : Nat, j + n = S.1 7 → ∀ (be le : Int32) (v5 v6 : Value), v5.category = 1 → (be, le) = nhL (S.2.1 24) (S.2.1 25) (S.2.1 26) (S.2.1 9) i j → AW X G 10 [.ref (gad G 0), .int (nI i), .int be, .int le, .int (nI j), v5, v6] [] S := by
    intro n
    induction n with
    | zero =>
      intro j hj be le v5 v6 hv5 hp
      refine aw_iload_4 hX dX7_nearestHand_10 ?_
      refine aw_aload_0 hX dX7_nearestHand_12 ?_
      refine ag_X7_flues hX fl_X7_26 dX7_nearestHand_13 ?_
      refine ag_X2_size hX fl_X7_174 dX7_nearestHand_16 ?_
      first | with_reducible refine aw_icmpgeN hX (tgt := 86) dX7_nearestHand_19 (by decide) (by omega) (by omega) (fun c_19 => ?_) (fun c_19 => ?_) | refine aw_jge hX (tgt := 86) dX7_nearestHand_19 (by decide) (fun c_19 => ?_) (fun c_19 => ?_)
      · skip
        refine aw_iload_2 hX dX7_nearestHand_86 ?_
        refine aw_finI (hR _ _ dX7_nearestHand_87) ?_ ?_
        · rw [show S.1 7 = j by omega, ← hp]
        · rfl
      · exact absurd c_19 (by omega)
    | succ n ih =>
      intro j hj be le v5 v6 hv5 hp
      have hjj := hh j (by omega)
      refine aw_iload_4 hX dX7_nearestHand_10 ?_
      refine aw_aload_0 hX dX7_nearestHand_12 ?_
      refine ag_X7_flues hX fl_X7_26 dX7_nearestHand_13 ?_
      refine ag_X2_size hX fl_X7_174 dX7_nearestHand_16 ?_
      first | with_reducible refine aw_icmpgeN hX (tgt := 86) dX7_nearestHand_19 (by decide) (by omega) (by omega) (fun c_19 => ?_) (fun c_19 => ?_) | refine aw_jge hX (tgt := 86) dX7_nearestHand_19 (by decide) (fun c_19 => ?_) (fun c_19 => ?_)
      · exact absurd c_19 (by omega)
      · skip
        refine aw_aload_0 hX dX7_nearestHand_22 ?_
        refine ag_X7_flues hX fl_X7_26 dX7_nearestHand_23 ?_
        refine ag_X2_hand hX fl_X7_152 dX7_nearestHand_26 ?_
        refine aw_iload_4 hX dX7_nearestHand_29 ?_
        refine aw_iald hX dX7_nearestHand_31 rfl (by decide) (by omega) ?_
        refine aw_istore_5 hX rfl (by decide) dX7_nearestHand_32 ?_
        refine aw_aload_0 hX dX7_nearestHand_34 ?_
        refine ag_X7_flues hX fl_X7_26 dX7_nearestHand_35 ?_
        refine aw_iload_1 hX dX7_nearestHand_38 ?_
        refine aw_iload_4 hX dX7_nearestHand_39 ?_
        refine cv_X2_wayBetween hX ml_X7_277 dX7_nearestHand_41 (m_X2_wayBetween _ G S i j hi (by omega)) (Nat.le_of_ble_eq_true rfl) ?_
        refine aw_istore_6 hX rfl (by decide) dX7_nearestHand_44 ?_
        refine aw_aload_0 hX dX7_nearestHand_46 ?_
        refine ag_X7_handIsIll hX fl_X7_58 dX7_nearestHand_47 ?_
        refine aw_iload_5 hX dX7_nearestHand_50 ?_
        refine aw_ti hjj.1 ?_
        refine aw_zald hX dX7_nearestHand_52 rfl (by decide) hjj.2 ?_
        first | with_reducible refine aw_ifneB hX (tgt := 80) dX7_nearestHand_53 (by decide) (fun c_53 => ?_) (fun c_53 => ?_) | refine aw_ifne hX (tgt := 80) dX7_nearestHand_53 (by decide) (fun c_53 => ?_) (fun c_53 => ?_)
        · skip
          first | with_reducible refine aw_iinc_4N hX rfl (by decide) dX7_nearestHand_80 ?_ | refine aw_iinc_4 hX rfl (by decide) dX7_nearestHand_80 ?_
          refine aw_goto hX (tgt := 10) dX7_nearestHand_83 (by decide) ?_
          exact ih (j + 1) (by omega) _ _ _ _ rfl (by simp only [nhL, ← hp]; simp [c_19, c_53])
        · skip
          refine aw_iload_6 hX dX7_nearestHand_56 ?_
          refine aw_iload_3 hX dX7_nearestHand_58 ?_
          first | with_reducible refine aw_icmpltN hX (tgt := 74) dX7_nearestHand_59 (by decide) (by omega) (by omega) (fun c_59 => ?_) (fun c_59 => ?_) | refine aw_jlt hX (tgt := 74) dX7_nearestHand_59 (by decide) (fun c_59 => ?_) (fun c_59 => ?_)
          · skip
            refine aw_iload_5 hX dX7_nearestHand_74 ?_
            refine aw_istore_2 hX rfl (by decide) dX7_nearestHand_76 ?_
            refine aw_iload_6 hX dX7_nearestHand_77 ?_
            refine aw_istore_3 hX rfl (by decide) dX7_nearestHand_79 ?_
            first | with_reducible refine aw_iinc_4N hX rfl (by decide) dX7_nearestHand_80 ?_ | refine aw_iinc_4 hX rfl (by decide) dX7_nearestHand_80 ?_
            refine aw_goto hX (tgt := 10) dX7_nearestHand_83 (by decide) ?_
            exact ih (j + 1) (by omega) _ _ _ _ rfl (by simp only [nhL, ← hp]; simp [c_19, c_53, c_59])
          · skip
            refine aw_iload_6 hX dX7_nearestHand_62 ?_
            refine aw_iload_3 hX dX7_nearestHand_64 ?_
            first | with_reducible refine aw_icmpneN hX (tgt := 80) dX7_nearestHand_65 (by decide) (by omega) (by omega) (fun c_65 => ?_) (fun c_65 => ?_) | refine aw_icmpne hX (tgt := 80) dX7_nearestHand_65 (by decide) (fun c_65 => ?_) (fun c_65 => ?_)
            · skip
              first | with_reducible refine aw_iinc_4N hX rfl (by decide) dX7_nearestHand_80 ?_ | refine aw_iinc_4 hX rfl (by decide) dX7_nearestHand_80 ?_
              refine aw_goto hX (tgt := 10) dX7_nearestHand_83 (by decide) ?_
              exact ih (j + 1) (by omega) _ _ _ _ rfl (by simp only [nhL, ← hp]; simp [c_19, c_53, c_59, c_65])
            · skip
              refine aw_iload_5 hX dX7_nearestHand_68 ?_
              refine aw_iload_2 hX dX7_nearestHand_70 ?_
              first | with_reducible refine aw_icmpgeN hX (tgt := 80) dX7_nearestHand_71 (by decide) (by omega) (by omega) (fun c_71 => ?_) (fun c_71 => ?_) | refine aw_jge hX (tgt := 80) dX7_nearestHand_71 (by decide) (fun c_71 => ?_) (fun c_71 => ?_)
              · skip
                first | with_reducible refine aw_iinc_4N hX rfl (by decide) dX7_nearestHand_80 ?_ | refine aw_iinc_4 hX rfl (by decide) dX7_nearestHand_80 ?_
                refine aw_goto hX (tgt := 10) dX7_nearestHand_83 (by decide) ?_
                exact ih (j + 1) (by omega) _ _ _ _ rfl (by simp only [nhL, ← hp]; simp [c_19, c_53, c_59, c_65, c_71])
              · skip
                refine aw_iload_5 hX dX7_nearestHand_74 ?_
                refine aw_istore_2 hX rfl (by decide) dX7_nearestHand_76 ?_
                refine aw_iload_6 hX dX7_nearestHand_77 ?_
                refine aw_istore_3 hX rfl (by decide) dX7_nearestHand_79 ?_
                first | with_reducible refine aw_iinc_4N hX rfl (by decide) dX7_nearestHand_80 ?_ | refine aw_iinc_4 hX rfl (by decide) dX7_nearestHand_80 ?_
                refine aw_goto hX (tgt := 10) dX7_nearestHand_83 (by decide) ?_
                exact ih (j + 1) (by omega) _ _ _ _ rfl (by simp only [nhL, ← hp]; simp [c_19, c_53, c_59, c_65, c_71])
  refine aw_bipush hX (v := (-9)) (by decide) dX7_nearestHand_0 ?_
  refine aw_istore_2 hX rfl (by decide) dX7_nearestHand_2 ?_
  refine aw_ldcw hX kc_X7_276 dX7_nearestHand_3 ?_
  refine aw_ti (y := nI 1000000) (by decide) ?_
  refine aw_istore_3 hX rfl (by decide) dX7_nearestHand_6 ?_
  refine aw_iconst hX (v := nI 0) (by decide) dX7_nearestHand_7 ?_
  refine aw_istore_4 hX rfl (by decide) dX7_nearestHand_8 ?_
  exact loop (S.1 7) 0 (by omega) _ _ _ _ rfl rfl
set_option maxHeartbeats 4000000 in
set_option maxRecDepth 100000 in
theorem m_X7_doerOf (d : Nat) (G : GT) (S : St) (i : Nat) (hi : i < S.1 7) (hs : S.1 7 ≤ 12) (hh : HdOK (S.1 7) (S.2.1 26)) : rX7_doerOf G (d + 3) [.ref (gad G 0), .int (nI i)] S (some (.int (doX S i))) S := by
  refine runs_I (d := (d + 2)) (by decide) (Nat.le_of_ble_eq_true rfl) (fun X (hX : XC X G (d + 2) RX7 cX7_doerOf 4) hR => ?_)
  show AW X G 0 [.ref (gad G 0), .int (nI i), .null, .null] [] S
  have hjj := hh i hi
  refine aw_aload_0 hX dX7_doerOf_0 ?_
  refine ag_X7_flues hX fl_X7_26 dX7_doerOf_1 ?_
  refine ag_X2_hand hX fl_X7_152 dX7_doerOf_4 ?_
  refine aw_iload_1 hX dX7_doerOf_7 ?_
  refine aw_iald hX dX7_doerOf_8 rfl (by decide) (by omega) ?_
  refine aw_istore_2 hX rfl (by decide) dX7_doerOf_9 ?_
  refine aw_aload_0 hX dX7_doerOf_10 ?_
  refine ag_X7_handIsIll hX fl_X7_58 dX7_doerOf_11 ?_
  refine aw_iload_2 hX dX7_doerOf_14 ?_
  refine aw_ti hjj.1 ?_
  refine aw_zald hX dX7_doerOf_15 rfl (by decide) hjj.2 ?_
  first | with_reducible refine aw_ifneB hX (tgt := 21) dX7_doerOf_16 (by decide) (fun c_16 => ?_) (fun c_16 => ?_) | refine aw_ifne hX (tgt := 21) dX7_doerOf_16 (by decide) (fun c_16 => ?_) (fun c_16 => ?_)
  · skip
    refine aw_aload_0 hX dX7_doerOf_21 ?_
    refine aw_iload_1 hX dX7_doerOf_22 ?_
    refine cv_X7_nearestHand hX ml_X7_270 dX7_doerOf_23 (m_X7_nearestHand d G S i (by omega) hs hh) (Nat.le_of_ble_eq_true rfl) ?_
    refine aw_istore_3 hX rfl (by decide) dX7_doerOf_26 ?_
    refine aw_iload_3 hX dX7_doerOf_27 ?_
    refine aw_bipush hX (v := (-9)) (by decide) dX7_doerOf_28 ?_
    first | with_reducible refine aw_icmpneN hX (tgt := 40) dX7_doerOf_30 (by decide) (by omega) (by omega) (fun c_30 => ?_) (fun c_30 => ?_) | refine aw_icmpne hX (tgt := 40) dX7_doerOf_30 (by decide) (fun c_30 => ?_) (fun c_30 => ?_)
    · skip
      refine aw_iload_3 hX dX7_doerOf_40 ?_
      refine aw_finI (hR _ _ dX7_doerOf_41) ?_ ?_
      · simp [doX, doO, c_16, c_30]
      · rfl
    · skip
      refine aw_aload_0 hX dX7_doerOf_33 ?_
      refine cv_X7_leastHandNotIll hX ml_X7_273 dX7_doerOf_34 (m_X7_leastHandNotIll _ G S) (Nat.le_of_ble_eq_true rfl) ?_
      refine aw_goto hX (tgt := 41) dX7_doerOf_37 (by decide) ?_
      refine aw_finI (hR _ _ dX7_doerOf_41) ?_ ?_
      · simp [doX, doO, c_16, c_30]
      · rfl
  · skip
    refine aw_iload_2 hX dX7_doerOf_19 ?_
    refine aw_finI (hR _ _ dX7_doerOf_20) ?_ ?_
    · simp [doX, doO, c_16]
    · rfl
def wtX (S : St) (i w : Nat) (hand day : Int32) : Int32 := if doX S i = hand ∧ foX S i = false ∧ nI (duX S (S.2.1 20 i) w) ≤ day then nI (duX S (S.2.1 20 i) w) else -9
set_option maxHeartbeats 4000000 in
set_option maxRecDepth 100000 in
theorem m_X7_waitingSince (d : Nat) (G : GT) (S : St) (i w : Nat) (hand day : Int32) (hi : i < S.1 7) (h7 : S.1 7 ≤ 12) (h8 : S.1 8 ≤ 30) (hs : S.1 10 ≤ 100) (hh : HdOK (S.1 7) (S.2.1 26)) (hb : BkOK S) (hw : swX S i (nI (S.1 0)) = nI w) (hw5 : w ≤ 500) : rX7_waitingSince G (d + 5) [.ref (gad G 0), .int (nI i), .int hand, .int day] S (some (.int (wtX S i w hand day))) S := by
  refine runs_I (d := (d + 4)) (by decide) (Nat.le_of_ble_eq_true rfl) (fun X (hX : XC X G (d + 4) RX7 cX7_waitingSince 5) hR => ?_)
  show AW X G 0 [.ref (gad G 0), .int (nI i), .int hand, .int day, .null] [] S
  refine aw_aload_0 hX dX7_waitingSince_0 ?_
  refine aw_iload_1 hX dX7_waitingSince_1 ?_
  refine cv_X7_doerOf hX ml_X7_168 dX7_waitingSince_2 (m_X7_doerOf (d + 1) G S i hi h7 hh) (Nat.le_of_ble_eq_true rfl) ?_
  refine aw_iload_2 hX dX7_waitingSince_5 ?_
  first | with_reducible refine aw_icmpneN hX (tgt := 17) dX7_waitingSince_6 (by decide) (by omega) (by omega) (fun c_6 => ?_) (fun c_6 => ?_) | refine aw_icmpne hX (tgt := 17) dX7_waitingSince_6 (by decide) (fun c_6 => ?_) (fun c_6 => ?_)
  · skip
    refine aw_bipush hX (v := (-9)) (by decide) dX7_waitingSince_17 ?_
    refine aw_finI (hR _ _ dX7_waitingSince_19) ?_ ?_
    · simp [wtX, c_6]
    · rfl
  · skip
    refine aw_aload_0 hX dX7_waitingSince_9 ?_
    refine aw_iload_1 hX dX7_waitingSince_10 ?_
    refine cv_X7_isForbidden hX ml_X7_161 dX7_waitingSince_11 (m_X7_isForbidden (d + 2) G S i (by omega) h8) (Nat.le_of_ble_eq_true rfl) ?_
    first | with_reducible refine aw_ifeqB hX (tgt := 20) dX7_waitingSince_14 (by decide) (fun c_14 => ?_) (fun c_14 => ?_) | refine aw_ifeq hX (tgt := 20) dX7_waitingSince_14 (by decide) (fun c_14 => ?_) (fun c_14 => ?_)
    · skip
      refine aw_aload_0 hX dX7_waitingSince_20 ?_
      refine aw_iload_1 hX dX7_waitingSince_21 ?_
      refine cv_X7_dueOf hX ml_X7_171 dX7_waitingSince_22 (m_X7_dueOf d G S i w (by omega) hs hb hw hw5) (Nat.le_of_ble_eq_true rfl) ?_
      refine aw_istore_4 hX rfl (by decide) dX7_waitingSince_25 ?_
      refine aw_iload_4 hX dX7_waitingSince_27 ?_
      refine aw_iload_3 hX dX7_waitingSince_29 ?_
      first | with_reducible refine aw_icmpgtN hX (tgt := 38) dX7_waitingSince_30 (by decide) (by omega) (by omega) (fun c_30 => ?_) (fun c_30 => ?_) | refine aw_jgt hX (tgt := 38) dX7_waitingSince_30 (by decide) (fun c_30 => ?_) (fun c_30 => ?_)
      · skip
        refine aw_bipush hX (v := (-9)) (by decide) dX7_waitingSince_38 ?_
        refine aw_finI (hR _ _ dX7_waitingSince_40) ?_ ?_
        · simp [wtX, c_6, c_14, c_30]
        · rfl
      · skip
        refine aw_iload_4 hX dX7_waitingSince_33 ?_
        refine aw_goto hX (tgt := 40) dX7_waitingSince_35 (by decide) ?_
        refine aw_finI (hR _ _ dX7_waitingSince_40) ?_ ?_
        · simp [wtX, c_6, c_14, c_30]
        · rfl
    · skip
      refine aw_bipush hX (v := (-9)) (by decide) dX7_waitingSince_17 ?_
      refine aw_finI (hR _ _ dX7_waitingSince_19) ?_ ?_
      · simp [wtX, c_6, c_14]
      · rfl
