def HdM (S : St) : Prop := ∀ f, f < S.1 18 → ofM S f 7 = nI (tn (ofM S f 7)) ∧ tn (ofM S f 7) < 4
def MOK (S : St) : Prop := S.1 18 ≤ 12 ∧ S.1 19 ≤ 30 ∧ BmOK S ∧ (∀ f dy, spM S f dy ≤ nI 200) ∧ Of9 S ∧ HdM S
def drM (S : St) (f : Nat) : Nat := duM S (ofM S f 1) (tn (ofM S f 9))
def seM (S : St) (hd day af : Int32) : Nat → Int32 × Int32
  | 0 => (-9, nI 0)
  | f + 1 => if ¬ nI (12 * drM S f + f) ≤ af ∧ nI (drM S f) ≤ day ∧ foM S f = false ∧ doM S f = hd ∧ ((seM S hd day af f).1 = -9 ∨ ¬ (seM S hd day af f).2 ≤ nI (12 * drM S f + f)) then (nI f, nI (12 * drM S f + f)) else seM S hd day af f
def inM (b : Int32) : Nat → St → St
  | 0, S => sA S 58 0 b
  | a + 1, S => if S.2.1 58 a ≤ b then sA S 58 (a + 1) b else inM b a (sA S 58 (a + 1) (S.2.1 58 a))
def roM (hd day : Int32) : Nat → St → Nat → Int32 → St × Nat
  | 0, S, many, _ => (S, many)
  | k + 1, S, many, af => if (seM S hd day af (S.1 18)).1 = -9 then roM hd day k S many af else roM hd day k (inM (seM S hd day af (S.1 18)).1 many S) (many + 1) (seM S hd day af (S.1 18)).2
def tiM (S : St) : Nat → St
  | 0 => S
  | n + 1 => sA (tiM S n) 59 n (nI n)
def cpM (S : St) : Nat → St
  | 0 => S
  | n + 1 => sA (cpM S n) 57 n (S.2.1 58 (tn (S.2.1 59 n)))
def upM (S : St) (n : Nat) : St := if wyM S n < S.1 24 then cpM (sN S 24 (wyM S n)) n else S
def goN (S : St) (n : Nat) : Bool × St := if n = 0 then (false, S) else goM S n
def mwM (n : Nat) : Nat → St → Option St
  | 0, _ => none
  | k + 1, S => if (goN (upM S n) n).1 = true then mwM n k (goN (upM S n) n).2 else some (goN (upM S n) n).2
theorem fdL_le {P : Nat → Bool} : ∀ n d : Nat, fdL P n d ≤ d + n
  | 0, d => Nat.le_refl _
  | n + 1, d => by
    unfold fdL
    have := fdL_le (P := P) n (d + 1)
    split <;> omega
theorem duO_le {nl : Nat} {td st ff sp fr : Nat → Int32} {fuel : Int32} {w : Nat} : duO nl td st ff sp fr fuel w ≤ w + 200 := by
  have := fdL_le (P := fun j => decide (spO nl td st ff sp fr fuel (nI (w + j)) ≤ nI j)) 199 1
  unfold duO
  omega
theorem drM_le {S : St} (h : MOK S) {f : Nat} (hf : f < S.1 18) : drM S f ≤ 700 := by
  have h1 := (h.2.2.2.2.1 f hf).2
  have := duO_le (nl := S.1 16) (td := S.2.1 47) (st := S.2.1 48) (ff := S.2.1 49) (sp := S.2.1 50) (fr := S.2.1 51) (fuel := ofM S f 1) (w := tn (ofM S f 9))
  unfold drM duM
  omega
theorem mok_sA {S : St} (h : MOK S) {j i : Nat} {v : Int32} (hj : j = 57 ∨ j = 58 ∨ j = 59) : MOK (sA S j i v) := by
  rcases hj with rfl | rfl | rfl <;> exact h
theorem mok_inM {b : Int32} : ∀ (a : Nat) (S : St), MOK S → MOK (inM b a S)
  | 0, S, h => mok_sA h (by decide)
  | a + 1, S, h => by
    rw [inM]
    split
    · exact mok_sA h (by decide)
    · exact mok_inM a _ (mok_sA h (by decide))
theorem tiM_N {S : St} : ∀ {n : Nat}, (tiM S n).1 = S.1
  | 0 => rfl
  | n + 1 => tiM_N (n := n)
theorem cpM_N {S : St} : ∀ {n : Nat}, (cpM S n).1 = S.1
  | 0 => rfl
  | n + 1 => cpM_N (n := n)
theorem cpM_A {S : St} {j : Nat} (h : j ≠ 57) : ∀ {n : Nat}, (cpM S n).2.1 j = S.2.1 j
  | 0 => rfl
  | n + 1 => by
    show (sA (cpM S n) 57 n _).2.1 j = S.2.1 j
    rw [sA_A, if_neg h]
    exact cpM_A h
theorem cpM_58 {S : St} {n : Nat} : (cpM S n).2.1 58 = S.2.1 58 := cpM_A (by decide)
theorem cpM_59 {S : St} {n : Nat} : (cpM S n).2.1 59 = S.2.1 59 := cpM_A (by decide)
theorem inM_N {b : Int32} : ∀ (a : Nat) (S : St), (inM b a S).1 = S.1
  | 0, S => rfl
  | a + 1, S => by
    rw [inM]
    split
    · rfl
    · exact inM_N a _
set_option maxHeartbeats 4000000 in
set_option maxRecDepth 100000 in
theorem m_X8_round_bad (d : Nat) (G : GT) (S : St) (h13 : S.1 13 = 0) (hd n day : Int32) (h : (inR hd (nI 0) (nI 3) && inR n (nI 1) (nI 6) && inR day (nI 0) (nI 800)) = false) : rX8_round G (d + 4) [.ref (gad G 8), .int hd, .int n, .int day] S (some (.int (-1))) S := by
  refine runs_I (d := (d + 3)) (by decide) (Nat.le_of_ble_eq_true rfl) (fun X (hX : XC X G (d + 3) RX8 cX8_round 11) hR => ?_)
  show AW X G 0 [.ref (gad G 8), .int hd, .int n, .int day, .null, .null, .null, .null, .null, .null, .null] [] S
  refine aw_aload_0 hX dX8_round_0 ?_
  refine aw_iconst hX (v := nI 0) (by decide) dX8_round_1 ?_
  refine ap_X8_thrown hX fl_X8_57 dX8_round_2 ?_
  refine aw_S (sN_self h13) ?_
  refine aw_iload_1 hX dX8_round_5 ?_
  refine cs_X8_isHand hX ml_X8_132 dX8_round_6 (m_X8_isHand _ G S _) (Nat.le_of_ble_eq_true rfl) ?_
  first | with_reducible refine aw_ifeqB hX (tgt := 33) dX8_round_9 (by decide) (fun c_9 => ?_) (fun c_9 => ?_) | refine aw_ifeq hX (tgt := 33) dX8_round_9 (by decide) (fun c_9 => ?_) (fun c_9 => ?_)
  · skip
    refine aw_iconst hX (v := (-1)) (by decide) dX8_round_33 ?_
    refine aw_finI (hR _ _ dX8_round_34) ?_ ?_
    · rfl
    · rfl
  · skip
    refine aw_iload_2 hX dX8_round_12 ?_
    refine aw_iconst hX (v := nI 1) (by decide) dX8_round_13 ?_
    refine aw_bipush hX (v := nI 6) (by decide) dX8_round_14 ?_
    refine cs_X8_in hX ml_X8_60 dX8_round_16 (m_X8_in _ G S _ _ _) (Nat.le_of_ble_eq_true rfl) ?_
    first | with_reducible refine aw_ifeqB hX (tgt := 33) dX8_round_19 (by decide) (fun c_19 => ?_) (fun c_19 => ?_) | refine aw_ifeq hX (tgt := 33) dX8_round_19 (by decide) (fun c_19 => ?_) (fun c_19 => ?_)
    · skip
      refine aw_iconst hX (v := (-1)) (by decide) dX8_round_33 ?_
      refine aw_finI (hR _ _ dX8_round_34) ?_ ?_
      · rfl
      · rfl
    · skip
      refine aw_iload_3 hX dX8_round_22 ?_
      refine aw_iconst hX (v := nI 0) (by decide) dX8_round_23 ?_
      refine aw_sipush hX (v := nI 800) (by decide) dX8_round_24 ?_
      refine cs_X8_in hX ml_X8_60 dX8_round_27 (m_X8_in _ G S _ _ _) (Nat.le_of_ble_eq_true rfl) ?_
      first | with_reducible refine aw_ifneB hX (tgt := 35) dX8_round_30 (by decide) (fun c_30 => ?_) (fun c_30 => ?_) | refine aw_ifne hX (tgt := 35) dX8_round_30 (by decide) (fun c_30 => ?_) (fun c_30 => ?_)
      · simp [c_9, c_19, c_30] at h
      · skip
        refine aw_iconst hX (v := (-1)) (by decide) dX8_round_33 ?_
        refine aw_finI (hR _ _ dX8_round_34) ?_ ?_
        · rfl
        · rfl
theorem wyM_le {S : St} {n : Nat} (h : TcOK S n) : wyM S n ≤ 280 := by
  have h1 := wyL_le n h.p
  have h2 := h.1
  unfold wyM
  omega
theorem roM_le {hd day : Int32} : ∀ (k : Nat) (S : St) (many : Nat) (af : Int32), (roM hd day k S many af).2 ≤ many + k
  | 0, S, many, af => Nat.le_refl _
  | k + 1, S, many, af => by
    rw [roM]
    split
    · have := roM_le (hd := hd) (day := day) k S many af; omega
    · have := roM_le (hd := hd) (day := day) k (inM (seM S hd day af (S.1 18)).1 many S) (many + 1) (seM S hd day af (S.1 18)).2; omega
set_option maxHeartbeats 4000000 in
set_option maxRecDepth 100000 in
theorem m_X8_round_ok (d : Nat) (G : GT) (S : St) (h13 : S.1 13 = 0) (hd day : Int32) (n : Nat) (hn1 : 1 ≤ n) (hn6 : n ≤ 6) (hhd : inR hd (nI 0) (nI 3) = true) (hday : inR day (nI 0) (nI 800) = true) (hm : MOK S) (PP : St → Prop) (R : St) (hP0 : PP (sN (sN (tiM (roM hd day n S 0 (-1)).1 (roM hd day n S 0 (-1)).2) 23 (roM hd day n S 0 (-1)).2) 24 100000)) (hPs : ∀ S1, PP S1 → TcOK S1 (roM hd day n S 0 (-1)).2 ∧ S1.1 24 ≤ 100000 ∧ PP (goN (upM S1 (roM hd day n S 0 (-1)).2) (roM hd day n S 0 (-1)).2).2) (hmw : mwM (roM hd day n S 0 (-1)).2 721 (sN (sN (tiM (roM hd day n S 0 (-1)).1 (roM hd day n S 0 (-1)).2) 23 (roM hd day n S 0 (-1)).2) 24 100000) = some R) : rX8_round G (d + 4) [.ref (gad G 8), .int hd, .int (nI n), .int day] S (some (.int (nI (roM hd day n S 0 (-1)).2))) (R) := by
  refine runs_I (d := (d + 3)) (by decide) (Nat.le_of_ble_eq_true rfl) (fun X (hX : XC X G (d + 3) RX8 cX8_round 11) hR => ?_)
  show AW X G 0 [.ref (gad G 8), .int hd, .int (nI n), .int day, .null, .null, .null, .null, .null, .null, .null] [] S
  have sel : ∀ (S1 : St) (many kk : Nat) (af : Int32), MOK S1 → ∀ j f : Nat, f + j = S1.1 18 → ∀ (be le : Int32) (v10 : Value), v10.category = 1 → (be, le) = seM S1 hd day af f → (∀ v10 : Value, v10.category = 1 → AW X G 154 [.ref (gad G 8), .int hd, .int (nI n), .int day, .int (nI many), .int af, .int (nI kk), .int (seM S1 hd day af (S1.1 18)).1, .int (seM S1 hd day af (S1.1 18)).2, .int (nI (S1.1 18)), v10] [] S1) → AW X G 60 [.ref (gad G 8), .int hd, .int (nI n), .int day, .int (nI many), .int af, .int (nI kk), .int be, .int le, .int (nI f), v10] [] S1 := by
    intro S1 many kk af hm j
    have h18 := hm.1
    induction j with
    | zero =>
      intro f hf be le v10 h10 hp hk
      refine aw_iload_9 hX dX8_round_60 ?_
      refine aw_aload_0 hX dX8_round_62 ?_
      refine ag_X8_flues hX fl_X8_93 dX8_round_63 ?_
      first | with_reducible refine aw_icmpgeN hX (tgt := 154) dX8_round_66 (by decide) (by omega) (by omega) (fun c_66 => ?_) (fun c_66 => ?_) | refine aw_jge hX (tgt := 154) dX8_round_66 (by decide) (fun c_66 => ?_) (fun c_66 => ?_)
      · skip
        rw [show S1.1 18 = f by omega, ← hp] at hk; exact hk _ h10
      · exact absurd c_66 (by omega)
    | succ j ih =>
      intro f hf be le v10 h10 hp hk
      refine aw_iload_9 hX dX8_round_60 ?_
      refine aw_aload_0 hX dX8_round_62 ?_
      refine ag_X8_flues hX fl_X8_93 dX8_round_63 ?_
      first | with_reducible refine aw_icmpgeN hX (tgt := 154) dX8_round_66 (by decide) (by omega) (by omega) (fun c_66 => ?_) (fun c_66 => ?_) | refine aw_jge hX (tgt := 154) dX8_round_66 (by decide) (fun c_66 => ?_) (fun c_66 => ?_)
      · exact absurd c_66 (by omega)
      · skip
        refine aw_bipush hX (v := nI 12) (by decide) dX8_round_69 ?_
        refine aw_aload_0 hX dX8_round_71 ?_
        refine aw_iload_9 hX dX8_round_72 ?_
        refine aw_aload_0 hX dX8_round_74 ?_
        refine aw_iload_9 hX dX8_round_75 ?_
        refine aw_bipush hX (v := nI 9) (by decide) dX8_round_77 ?_
        refine cv_X8_of hX ml_X8_99 dX8_round_79 (m_X8_of _ G S1 f 9 (by omega) (by decide)) (Nat.le_of_ble_eq_true rfl) ?_
        refine aw_ti (hm.2.2.2.2.1 f (by omega)).1 ?_
        refine cv_X8_dueBy hX ml_X8_123 dX8_round_82 (m_X8_dueBy _ G S1 f _ (by omega) (hm.2.2.2.2.1 f (by omega)).2 hm.2.2.1 hm.2.2.2.1) (Nat.le_of_ble_eq_true rfl) ?_
        refine aw_ti (y := nI (drM S1 f)) rfl ?_
        have hdr := drM_le hm (show f < S1.1 18 by omega)
        first | with_reducible refine aw_imulN hX dX8_round_85 ?_ | refine aw_imul hX dX8_round_85 ?_
        refine aw_iload_9 hX dX8_round_86 ?_
        first | with_reducible refine aw_iaddN hX dX8_round_88 ?_ | refine aw_iadd hX dX8_round_88 ?_
        refine aw_istore_10 hX rfl (by decide) dX8_round_89 ?_
        refine aw_iload_10 hX dX8_round_91 ?_
        refine aw_iload_5 hX dX8_round_93 ?_
        refine aw_jle hX (tgt := 148) dX8_round_95 (by decide) (fun c_95 => ?_) (fun c_95 => ?_)
        · skip
          first | with_reducible refine aw_iinc_9N hX rfl (by decide) dX8_round_148 ?_ | refine aw_iinc_9 hX rfl (by decide) dX8_round_148 ?_
          refine aw_goto hX (tgt := 60) dX8_round_151 (by decide) ?_
          exact ih (f + 1) (by omega) _ _ _ rfl (by simp only [seM, ← hp]; simp [c_66, c_95]) hk
        · skip
          refine aw_iload_10 hX dX8_round_98 ?_
          refine aw_bipush hX (v := nI 12) (by decide) dX8_round_100 ?_
          refine aw_idiv hX (by decide) dX8_round_102 ?_
          refine aw_ti (y := nI (drM S1 f)) (by rw [pk_div (by omega) (by omega) (by omega)]; exact congrArg nI (by omega)) ?_
          refine aw_iload_3 hX dX8_round_103 ?_
          refine aw_jgt hX (tgt := 148) dX8_round_104 (by decide) (fun c_104 => ?_) (fun c_104 => ?_)
          · skip
            first | with_reducible refine aw_iinc_9N hX rfl (by decide) dX8_round_148 ?_ | refine aw_iinc_9 hX rfl (by decide) dX8_round_148 ?_
            refine aw_goto hX (tgt := 60) dX8_round_151 (by decide) ?_
            exact ih (f + 1) (by omega) _ _ _ rfl (by simp only [seM, ← hp]; simp [c_66, c_95, c_104]) hk
          · skip
            refine aw_aload_0 hX dX8_round_107 ?_
            refine aw_iload_9 hX dX8_round_108 ?_
            refine cv_X8_isForbidden hX ml_X8_116 dX8_round_110 (m_X8_isForbidden _ G S1 f (by omega) hm.2.1) (Nat.le_of_ble_eq_true rfl) ?_
            first | with_reducible refine aw_ifneB hX (tgt := 148) dX8_round_113 (by decide) (fun c_113 => ?_) (fun c_113 => ?_) | refine aw_ifne hX (tgt := 148) dX8_round_113 (by decide) (fun c_113 => ?_) (fun c_113 => ?_)
            · skip
              first | with_reducible refine aw_iinc_9N hX rfl (by decide) dX8_round_148 ?_ | refine aw_iinc_9 hX rfl (by decide) dX8_round_148 ?_
              refine aw_goto hX (tgt := 60) dX8_round_151 (by decide) ?_
              exact ih (f + 1) (by omega) _ _ _ rfl (by simp only [seM, ← hp]; simp [c_66, c_95, c_104, c_113]) hk
            · skip
              refine aw_aload_0 hX dX8_round_116 ?_
              refine aw_iload_9 hX dX8_round_117 ?_
              refine cv_X8_doer hX ml_X8_119 dX8_round_119 (m_X8_doer _ G S1 f (by omega) hm.1 (hm.2.2.2.2.2 f (by omega))) (Nat.le_of_ble_eq_true rfl) ?_
              refine aw_iload_1 hX dX8_round_122 ?_
              first | with_reducible refine aw_icmpneN hX (tgt := 148) dX8_round_123 (by decide) (by omega) (by omega) (fun c_123 => ?_) (fun c_123 => ?_) | refine aw_icmpne hX (tgt := 148) dX8_round_123 (by decide) (fun c_123 => ?_) (fun c_123 => ?_)
              · skip
                first | with_reducible refine aw_iinc_9N hX rfl (by decide) dX8_round_148 ?_ | refine aw_iinc_9 hX rfl (by decide) dX8_round_148 ?_
                refine aw_goto hX (tgt := 60) dX8_round_151 (by decide) ?_
                exact ih (f + 1) (by omega) _ _ _ rfl (by simp only [seM, ← hp]; simp [c_66, c_95, c_104, c_113, c_123]) hk
              · skip
                refine aw_iload_7 hX dX8_round_126 ?_
                refine aw_bipush hX (v := (-9)) (by decide) dX8_round_128 ?_
                refine aw_icmpeq hX (tgt := 140) dX8_round_130 (by decide) (fun c_130 => ?_) (fun c_130 => ?_)
                · skip
                  refine aw_iload_9 hX dX8_round_140 ?_
                  refine aw_istore_7 hX rfl (by decide) dX8_round_142 ?_
                  refine aw_iload_10 hX dX8_round_144 ?_
                  refine aw_istore_8 hX rfl (by decide) dX8_round_146 ?_
                  first | with_reducible refine aw_iinc_9N hX rfl (by decide) dX8_round_148 ?_ | refine aw_iinc_9 hX rfl (by decide) dX8_round_148 ?_
                  refine aw_goto hX (tgt := 60) dX8_round_151 (by decide) ?_
                  exact ih (f + 1) (by omega) _ _ _ rfl (by simp only [seM, ← hp]; simp [c_66, c_95, c_104, c_113, c_123, c_130]) hk
                · skip
                  refine aw_iload_10 hX dX8_round_133 ?_
                  refine aw_iload_8 hX dX8_round_135 ?_
                  refine aw_jge hX (tgt := 148) dX8_round_137 (by decide) (fun c_137 => ?_) (fun c_137 => ?_)
                  · skip
                    first | with_reducible refine aw_iinc_9N hX rfl (by decide) dX8_round_148 ?_ | refine aw_iinc_9 hX rfl (by decide) dX8_round_148 ?_
                    refine aw_goto hX (tgt := 60) dX8_round_151 (by decide) ?_
                    exact ih (f + 1) (by omega) _ _ _ rfl (by simp only [seM, ← hp]; simp [c_66, c_95, c_104, c_113, c_123, c_130, c_137]) hk
                  · skip
                    refine aw_iload_9 hX dX8_round_140 ?_
                    refine aw_istore_7 hX rfl (by decide) dX8_round_142 ?_
                    refine aw_iload_10 hX dX8_round_144 ?_
                    refine aw_istore_8 hX rfl (by decide) dX8_round_146 ?_
                    first | with_reducible refine aw_iinc_9N hX rfl (by decide) dX8_round_148 ?_ | refine aw_iinc_9 hX rfl (by decide) dX8_round_148 ?_
                    refine aw_goto hX (tgt := 60) dX8_round_151 (by decide) ?_
                    exact ih (f + 1) (by omega) _ _ _ rfl (by simp only [seM, ← hp]; simp [c_66, c_95, c_104, c_113, c_123, c_130, c_137]) hk
  have ins : ∀ (many kk : Nat) (af b le : Int32) (v10 : Value), v10.category = 1 → ∀ (a : Nat) (S1 : St), a < 6 → (∀ x9 : Int32, AW X G 215 [.ref (gad G 8), .int hd, .int (nI n), .int day, .int (nI many), .int af, .int (nI kk), .int b, .int le, .int x9, v10] [] (inM b a S1)) → AW X G 165 [.ref (gad G 8), .int hd, .int (nI n), .int day, .int (nI many), .int af, .int (nI kk), .int b, .int le, .int (nI a), v10] [] S1 := by
    intro many kk af b le v10 h10 a
    induction a with
    | zero =>
      intro S1 ha hk
      refine aw_iload_9 hX dX8_round_165 ?_
      refine aw_ifle hX (tgt := 206) dX8_round_167 (by decide) (fun c_167 => ?_) (fun c_167 => ?_)
      · skip
        refine aw_aload_0 hX dX8_round_206 ?_
        refine ag_X8_chosen hX fl_X8_51 dX8_round_207 ?_
        try simp +decide only [sN_N, sN_A, sN_L, sN_R, sA_N, sA_A, sA_L, sA_R, sL_N, sL_A, sL_L, sL_R, sR_N, sR_A, sR_L, sR_R, reduceIte]
        refine aw_iload_9 hX dX8_round_210 ?_
        refine aw_iload_7 hX dX8_round_212 ?_
        refine aw_iast hX dX8_round_214 rfl (fun _ => rfl) (by decide) (by omega) ?_
        exact hk _
      · exact absurd (by decide) c_167
    | succ a ih =>
      intro S1 ha hk
      refine aw_iload_9 hX dX8_round_165 ?_
      refine aw_ifle hX (tgt := 206) dX8_round_167 (by decide) (fun c_167 => ?_) (fun c_167 => ?_)
      · exact absurd c_167 (nI_nle (by omega) (by omega))
      · skip
        refine aw_aload_0 hX dX8_round_170 ?_
        refine ag_X8_chosen hX fl_X8_51 dX8_round_171 ?_
        try simp +decide only [sN_N, sN_A, sN_L, sN_R, sA_N, sA_A, sA_L, sA_R, sL_N, sL_A, sL_L, sL_R, sR_N, sR_A, sR_L, sR_R, reduceIte]
        refine aw_iload_9 hX dX8_round_174 ?_
        refine aw_iconst hX (v := nI 1) (by decide) dX8_round_176 ?_
        first | with_reducible refine aw_isubN hX (by omega) dX8_round_177 ?_ | refine aw_isub hX dX8_round_177 ?_
        refine aw_iald hX dX8_round_178 rfl (by decide) (by omega) ?_
        try simp +decide only [sN_N, sN_A, sN_L, sN_R, sA_N, sA_A, sA_L, sA_R, sL_N, sL_A, sL_L, sL_R, sR_N, sR_A, sR_L, sR_R, reduceIte]
        simp only [Nat.add_sub_cancel]
        refine aw_iload_7 hX dX8_round_179 ?_
        refine aw_jle hX (tgt := 206) dX8_round_181 (by decide) (fun c_181 => ?_) (fun c_181 => ?_)
        · rw [inM, if_pos c_181] at hk
          refine aw_aload_0 hX dX8_round_206 ?_
          refine ag_X8_chosen hX fl_X8_51 dX8_round_207 ?_
          try simp +decide only [sN_N, sN_A, sN_L, sN_R, sA_N, sA_A, sA_L, sA_R, sL_N, sL_A, sL_L, sL_R, sR_N, sR_A, sR_L, sR_R, reduceIte]
          refine aw_iload_9 hX dX8_round_210 ?_
          refine aw_iload_7 hX dX8_round_212 ?_
          refine aw_iast hX dX8_round_214 rfl (fun _ => rfl) (by decide) (by omega) ?_
          exact hk _
        · rw [inM, if_neg c_181] at hk
          refine aw_aload_0 hX dX8_round_184 ?_
          refine ag_X8_chosen hX fl_X8_51 dX8_round_185 ?_
          try simp +decide only [sN_N, sN_A, sN_L, sN_R, sA_N, sA_A, sA_L, sA_R, sL_N, sL_A, sL_L, sL_R, sR_N, sR_A, sR_L, sR_R, reduceIte]
          refine aw_iload_9 hX dX8_round_188 ?_
          refine aw_aload_0 hX dX8_round_190 ?_
          refine ag_X8_chosen hX fl_X8_51 dX8_round_191 ?_
          try simp +decide only [sN_N, sN_A, sN_L, sN_R, sA_N, sA_A, sA_L, sA_R, sL_N, sL_A, sL_L, sL_R, sR_N, sR_A, sR_L, sR_R, reduceIte]
          refine aw_iload_9 hX dX8_round_194 ?_
          refine aw_iconst hX (v := nI 1) (by decide) dX8_round_196 ?_
          first | with_reducible refine aw_isubN hX (by omega) dX8_round_197 ?_ | refine aw_isub hX dX8_round_197 ?_
          refine aw_iald hX dX8_round_198 rfl (by decide) (by omega) ?_
          try simp +decide only [sN_N, sN_A, sN_L, sN_R, sA_N, sA_A, sA_L, sA_R, sL_N, sL_A, sL_L, sL_R, sR_N, sR_A, sR_L, sR_R, reduceIte]
          simp only [Nat.add_sub_cancel]
          refine aw_iast hX dX8_round_199 rfl (fun _ => rfl) (by decide) (by omega) ?_
          refine aw_iinc_9 hX rfl (by decide) dX8_round_200 ?_
          refine aw_goto hX (tgt := 165) dX8_round_203 (by decide) ?_
          rw [nmp (by omega)]; exact ih _ (by omega) hk
  have outer : ∀ (j kk : Nat) (S1 : St) (many : Nat) (af : Int32) (v7 v8 v9 v10 : Value), kk + j = n → many ≤ kk → MOK S1 → v7.category = 1 → v8.category = 1 → v9.category = 1 → v10.category = 1 → (∀ (x5 : Int32) (x6 : Int32) (v7 v8 v9 v10 : Value), v7.category = 1 → v8.category = 1 → v9.category = 1 → v10.category = 1 → AW X G 228 [.ref (gad G 8), .int hd, .int (nI n), .int day, .int (nI (roM hd day j S1 many af).2), .int x5, .int x6, v7, v8, v9, v10] [] (roM hd day j S1 many af).1) → AW X G 44 [.ref (gad G 8), .int hd, .int (nI n), .int day, .int (nI many), .int af, .int (nI kk), v7, v8, v9, v10] [] S1 := by
    intro j
    induction j with
    | zero =>
      intro kk S1 many af v7 v8 v9 v10 hkk hmk hm h7 h8 h9 h10 hk
      refine aw_iload_6 hX dX8_round_44 ?_
      refine aw_iload_2 hX dX8_round_46 ?_
      first | with_reducible refine aw_icmpgeN hX (tgt := 228) dX8_round_47 (by decide) (by omega) (by omega) (fun c_47 => ?_) (fun c_47 => ?_) | refine aw_jge hX (tgt := 228) dX8_round_47 (by decide) (fun c_47 => ?_) (fun c_47 => ?_)
      · skip
        rw [roM] at hk; exact hk _ _ _ _ _ _ h7 h8 h9 h10
      · exact absurd c_47 (by omega)
    | succ j ih =>
      intro kk S1 many af v7 v8 v9 v10 hkk hmk hm h7 h8 h9 h10 hk
      refine aw_iload_6 hX dX8_round_44 ?_
      refine aw_iload_2 hX dX8_round_46 ?_
      first | with_reducible refine aw_icmpgeN hX (tgt := 228) dX8_round_47 (by decide) (by omega) (by omega) (fun c_47 => ?_) (fun c_47 => ?_) | refine aw_jge hX (tgt := 228) dX8_round_47 (by decide) (fun c_47 => ?_) (fun c_47 => ?_)
      · exact absurd c_47 (by omega)
      · skip
        refine aw_bipush hX (v := (-9)) (by decide) dX8_round_50 ?_
        refine aw_istore_7 hX rfl (by decide) dX8_round_52 ?_
        refine aw_iconst hX (v := nI 0) (by decide) dX8_round_54 ?_
        refine aw_istore_8 hX rfl (by decide) dX8_round_55 ?_
        refine aw_iconst hX (v := nI 0) (by decide) dX8_round_57 ?_
        refine aw_istore_9 hX rfl (by decide) dX8_round_58 ?_
        refine sel S1 many kk af hm (S1.1 18) 0 (by omega) _ _ _ h10 rfl (fun v10 h10b => ?_)
        refine aw_iload_7 hX dX8_round_154 ?_
        refine aw_bipush hX (v := (-9)) (by decide) dX8_round_156 ?_
        first | with_reducible refine aw_icmpeqN hX (tgt := 222) dX8_round_158 (by decide) (by omega) (by omega) (fun c_158 => ?_) (fun c_158 => ?_) | refine aw_icmpeq hX (tgt := 222) dX8_round_158 (by decide) (fun c_158 => ?_) (fun c_158 => ?_)
        · rw [roM, if_pos c_158] at hk
          first | with_reducible refine aw_iinc_6N hX rfl (by decide) dX8_round_222 ?_ | refine aw_iinc_6 hX rfl (by decide) dX8_round_222 ?_
          refine aw_goto hX (tgt := 44) dX8_round_225 (by decide) ?_
          exact ih (kk + 1) _ _ _ _ _ _ _ (by omega) (by omega) hm rfl rfl rfl h10b hk
        · rw [roM, if_neg c_158] at hk
          refine aw_iload_4 hX dX8_round_161 ?_
          refine aw_istore_9 hX rfl (by decide) dX8_round_163 ?_
          refine ins many kk af _ _ _ h10b many S1 (by omega) (fun x9 => ?_)
          first | with_reducible refine aw_iinc_4N hX rfl (by decide) dX8_round_215 ?_ | refine aw_iinc_4 hX rfl (by decide) dX8_round_215 ?_
          refine aw_iload_8 hX dX8_round_218 ?_
          refine aw_istore_5 hX rfl (by decide) dX8_round_220 ?_
          first | with_reducible refine aw_iinc_6N hX rfl (by decide) dX8_round_222 ?_ | refine aw_iinc_6 hX rfl (by decide) dX8_round_222 ?_
          refine aw_goto hX (tgt := 44) dX8_round_225 (by decide) ?_
          exact ih (kk + 1) _ _ _ _ _ _ _ (by omega) (by omega) (mok_inM _ _ hm) rfl rfl rfl h10b hk
  have tin : ∀ (S1 : St) (many : Nat) (x5 : Int32) (v7 v8 v9 v10 : Value), many ≤ 6 → ∀ j i : Nat, i + j = many → (∀ x6 : Int32, AW X G 253 [.ref (gad G 8), .int hd, .int (nI n), .int day, .int (nI many), .int x5, .int x6, v7, v8, v9, v10] [] (tiM S1 many)) → AW X G 231 [.ref (gad G 8), .int hd, .int (nI n), .int day, .int (nI many), .int x5, .int (nI i), v7, v8, v9, v10] [] (tiM S1 i) := by
    intro S1 many x5 v7 v8 v9 v10 hm6 j
    induction j with
    | zero =>
      intro i hi hk
      obtain rfl : i = many := by omega
      refine aw_iload_6 hX dX8_round_231 ?_
      refine aw_iload_4 hX dX8_round_233 ?_
      first | with_reducible refine aw_icmpgeN hX (tgt := 253) dX8_round_235 (by decide) (by omega) (by omega) (fun c_235 => ?_) (fun c_235 => ?_) | refine aw_jge hX (tgt := 253) dX8_round_235 (by decide) (fun c_235 => ?_) (fun c_235 => ?_)
      · skip
        exact hk _
      · exact absurd c_235 (by omega)
    | succ j ih =>
      intro i hi hk
      refine aw_iload_6 hX dX8_round_231 ?_
      refine aw_iload_4 hX dX8_round_233 ?_
      first | with_reducible refine aw_icmpgeN hX (tgt := 253) dX8_round_235 (by decide) (by omega) (by omega) (fun c_235 => ?_) (fun c_235 => ?_) | refine aw_jge hX (tgt := 253) dX8_round_235 (by decide) (fun c_235 => ?_) (fun c_235 => ?_)
      · exact absurd c_235 (by omega)
      · skip
        refine aw_aload_0 hX dX8_round_238 ?_
        refine ag_X8_tried hX fl_X8_54 dX8_round_239 ?_
        try simp +decide only [sN_N, sN_A, sN_L, sN_R, sA_N, sA_A, sA_L, sA_R, sL_N, sL_A, sL_L, sL_R, sR_N, sR_A, sR_L, sR_R, reduceIte]
        refine aw_iload_6 hX dX8_round_242 ?_
        refine aw_iload_6 hX dX8_round_244 ?_
        refine aw_iast hX dX8_round_246 rfl (fun _ => rfl) (by decide) (by omega) ?_
        first | with_reducible refine aw_iinc_6N hX rfl (by decide) dX8_round_247 ?_ | refine aw_iinc_6 hX rfl (by decide) dX8_round_247 ?_
        refine aw_goto hX (tgt := 231) dX8_round_250 (by decide) ?_
        exact ih (i + 1) (by omega) hk
  have cpl : ∀ (S1 : St) (many : Nat) (x5 x6 x7 : Int32) (v9 v10 : Value), TcOK S1 many → ∀ j i : Nat, i + j = many → (∀ x8 : Int32, AW X G 331 [.ref (gad G 8), .int hd, .int (nI n), .int day, .int (nI many), .int x5, .int x6, .int x7, .int x8, v9, v10] [] (cpM S1 many)) → AW X G 299 [.ref (gad G 8), .int hd, .int (nI n), .int day, .int (nI many), .int x5, .int x6, .int x7, .int (nI i), v9, v10] [] (cpM S1 i) := by
    intro S1 many x5 x6 x7 v9 v10 htc j
    have h6 := htc.1
    induction j with
    | zero =>
      intro i hi hk
      obtain rfl : i = many := by omega
      refine aw_iload_8 hX dX8_round_299 ?_
      refine aw_iload_4 hX dX8_round_301 ?_
      first | with_reducible refine aw_icmpgeN hX (tgt := 331) dX8_round_303 (by decide) (by omega) (by omega) (fun c_303 => ?_) (fun c_303 => ?_) | refine aw_jge hX (tgt := 331) dX8_round_303 (by decide) (fun c_303 => ?_) (fun c_303 => ?_)
      · skip
        exact hk _
      · exact absurd c_303 (by omega)
    | succ j ih =>
      intro i hi hk
      refine aw_iload_8 hX dX8_round_299 ?_
      refine aw_iload_4 hX dX8_round_301 ?_
      first | with_reducible refine aw_icmpgeN hX (tgt := 331) dX8_round_303 (by decide) (by omega) (by omega) (fun c_303 => ?_) (fun c_303 => ?_) | refine aw_jge hX (tgt := 331) dX8_round_303 (by decide) (fun c_303 => ?_) (fun c_303 => ?_)
      · exact absurd c_303 (by omega)
      · skip
        refine aw_aload_0 hX dX8_round_306 ?_
        refine ag_X8_row hX fl_X8_48 dX8_round_307 ?_
        try simp +decide only [sN_N, sN_A, sN_L, sN_R, sA_N, sA_A, sA_L, sA_R, sL_N, sL_A, sL_L, sL_R, sR_N, sR_A, sR_L, sR_R, reduceIte, cpM_58, cpM_59]
        refine aw_iload_8 hX dX8_round_310 ?_
        refine aw_aload_0 hX dX8_round_312 ?_
        refine ag_X8_chosen hX fl_X8_51 dX8_round_313 ?_
        try simp +decide only [sN_N, sN_A, sN_L, sN_R, sA_N, sA_A, sA_L, sA_R, sL_N, sL_A, sL_L, sL_R, sR_N, sR_A, sR_L, sR_R, reduceIte, cpM_58, cpM_59]
        refine aw_aload_0 hX dX8_round_316 ?_
        refine ag_X8_tried hX fl_X8_54 dX8_round_317 ?_
        try simp +decide only [sN_N, sN_A, sN_L, sN_R, sA_N, sA_A, sA_L, sA_R, sL_N, sL_A, sL_L, sL_R, sR_N, sR_A, sR_L, sR_R, reduceIte, cpM_58, cpM_59]
        refine aw_iload_8 hX dX8_round_320 ?_
        refine aw_iald hX dX8_round_322 rfl (by decide) (by omega) ?_
        try simp +decide only [sN_N, sN_A, sN_L, sN_R, sA_N, sA_A, sA_L, sA_R, sL_N, sL_A, sL_L, sL_R, sR_N, sR_A, sR_L, sR_R, reduceIte, cpM_58, cpM_59]
        refine aw_ti (htc.2.1 i (by omega)).1 ?_
        refine aw_iald hX dX8_round_323 rfl (by decide) (by have := (htc.2.1 i (by omega)).2; have := htc.1; omega) ?_
        try simp +decide only [sN_N, sN_A, sN_L, sN_R, sA_N, sA_A, sA_L, sA_R, sL_N, sL_A, sL_L, sL_R, sR_N, sR_A, sR_L, sR_R, reduceIte, cpM_58, cpM_59]
        refine aw_iast hX dX8_round_324 rfl (fun _ => rfl) (by decide) (by omega) ?_
        first | with_reducible refine aw_iinc_8N hX rfl (by decide) dX8_round_325 ?_ | refine aw_iinc_8 hX rfl (by decide) dX8_round_325 ?_
        refine aw_goto hX (tgt := 299) dX8_round_328 (by decide) ?_
        exact ih (i + 1) (by omega) hk
  have srch : ∀ (many : Nat), many ≤ 6 → (∀ S1, PP S1 → TcOK S1 many ∧ S1.1 24 ≤ 100000 ∧ PP (goN (upM S1 many) many).2) → (∀ (pc : Nat) (L : List Value), decode cX8_round pc = .ok (.ireturn, 1) → AW X G pc L [.int (nI many)] R) → ∀ (k : Nat) (S1 : St), PP S1 → mwM many k S1 = some R → ∀ (x5 : Int32) (v7 v8 v9 v10 : Value), v7.category = 1 → v8.category = 1 → AW X G 268 [.ref (gad G 8), .int hd, .int (nI n), .int day, .int (nI many), .int x5, .int (bI true), v7, v8, v9, v10] [] S1 := by
    intro many hm6 hPs hR k
    have hgo : ∀ S1 : St, rX8_goesOn G (d + 3) [.ref (gad G 8), .int (nI many)] S1 (some (.int (bI (goN S1 many).1))) (goN S1 many).2 := by
      intro S1
      by_cases h0 : many = 0
      · subst h0; exact m_X8_goesOn_0 (d + 2) G S1
      · rw [goN, if_neg h0]; exact m_X8_goesOn (d + 2) G S1 many (by omega) hm6
    induction k with
    | zero =>
      intro S1 h1 hp
      cases hp
    | succ k ih =>
      intro S1 h1 hp x5 v7 v8 v9 v10 h7 h8
      have hin := hPs S1 h1
      have hwy := wyM_le hin.1
      have h24 := hin.2.1
      refine aw_iload_6 hX dX8_round_268 ?_
      first | with_reducible refine aw_ifeqB hX (tgt := 342) dX8_round_270 (by decide) (fun c_270 => ?_) (fun c_270 => ?_) | refine aw_ifeq hX (tgt := 342) dX8_round_270 (by decide) (fun c_270 => ?_) (fun c_270 => ?_)
      · cases c_270
      · skip
        refine aw_aload_0 hX dX8_round_273 ?_
        refine aw_iload_4 hX dX8_round_274 ?_
        refine cv_X8_wayOf hX ml_X8_142 dX8_round_276 (m_X8_wayOf _ G S1 many hin.1) (Nat.le_of_ble_eq_true rfl) ?_
        refine aw_istore_7 hX rfl (by decide) dX8_round_279 ?_
        refine aw_iload_7 hX dX8_round_281 ?_
        refine aw_aload_0 hX dX8_round_283 ?_
        refine ag_X8_way hX fl_X8_139 dX8_round_284 ?_
        first | with_reducible refine aw_icmpgeN hX (tgt := 331) dX8_round_287 (by decide) (by omega) (by omega) (fun c_287 => ?_) (fun c_287 => ?_) | refine aw_jge hX (tgt := 331) dX8_round_287 (by decide) (fun c_287 => ?_) (fun c_287 => ?_)
        · have hup : upM S1 many = S1 := by rw [upM, if_neg (by omega)]
          refine aw_S hup.symm ?_
          have h8b := h8
          refine aw_aload_0 hX dX8_round_331 ?_
          refine aw_iload_4 hX dX8_round_332 ?_
          refine cv_X8_goesOn hX ml_X8_145 dX8_round_334 (hgo (upM S1 many)) (Nat.le_of_ble_eq_true rfl) ?_
          refine aw_istore_6 hX rfl (by decide) dX8_round_337 ?_
          refine aw_goto hX (tgt := 268) dX8_round_339 (by decide) ?_
          cases hg : (goN (upM S1 many) many).1 with
          | true =>
            exact ih _ hin.2.2 (by rw [← hp, mwM, if_pos hg]) _ _ _ _ _ rfl h8b
          | false =>
            refine aw_iload_6 hX dX8_round_268 ?_
            first | with_reducible refine aw_ifeqB hX (tgt := 342) dX8_round_270 (by decide) (fun c_270 => ?_) (fun c_270 => ?_) | refine aw_ifeq hX (tgt := 342) dX8_round_270 (by decide) (fun c_270 => ?_) (fun c_270 => ?_)
            · skip
              refine aw_iload_4 hX dX8_round_342 ?_
              refine aw_finI (hR _ _ dX8_round_344) ?_ ?_
              · rfl
              · rw [mwM, if_neg (by rw [hg]; decide)] at hp; exact Option.some.inj hp
            · cases c_270
        · have hup : upM S1 many = cpM (sN S1 24 (wyM S1 many)) many := by rw [upM, if_pos c_287]
          refine aw_aload_0 hX dX8_round_290 ?_
          refine aw_iload_7 hX dX8_round_291 ?_
          refine ap_X8_way hX fl_X8_139 dX8_round_293 ?_
          refine aw_iconst hX (v := nI 0) (by decide) dX8_round_296 ?_
          refine aw_istore_8 hX rfl (by decide) dX8_round_297 ?_
          refine cpl (sN S1 24 (wyM S1 many)) many _ _ _ _ _ hin.1 many 0 (by omega) (fun x8 => ?_)
          refine aw_S hup.symm ?_
          have h8b : (Value.int x8).category = 1 := rfl
          refine aw_aload_0 hX dX8_round_331 ?_
          refine aw_iload_4 hX dX8_round_332 ?_
          refine cv_X8_goesOn hX ml_X8_145 dX8_round_334 (hgo (upM S1 many)) (Nat.le_of_ble_eq_true rfl) ?_
          refine aw_istore_6 hX rfl (by decide) dX8_round_337 ?_
          refine aw_goto hX (tgt := 268) dX8_round_339 (by decide) ?_
          cases hg : (goN (upM S1 many) many).1 with
          | true =>
            exact ih _ hin.2.2 (by rw [← hp, mwM, if_pos hg]) _ _ _ _ _ rfl h8b
          | false =>
            refine aw_iload_6 hX dX8_round_268 ?_
            first | with_reducible refine aw_ifeqB hX (tgt := 342) dX8_round_270 (by decide) (fun c_270 => ?_) (fun c_270 => ?_) | refine aw_ifeq hX (tgt := 342) dX8_round_270 (by decide) (fun c_270 => ?_) (fun c_270 => ?_)
            · skip
              refine aw_iload_4 hX dX8_round_342 ?_
              refine aw_finI (hR _ _ dX8_round_344) ?_ ?_
              · rfl
              · rw [mwM, if_neg (by rw [hg]; decide)] at hp; exact Option.some.inj hp
            · cases c_270
  refine aw_aload_0 hX dX8_round_0 ?_
  refine aw_iconst hX (v := nI 0) (by decide) dX8_round_1 ?_
  refine ap_X8_thrown hX fl_X8_57 dX8_round_2 ?_
  refine aw_S (sN_self h13) ?_
  refine aw_iload_1 hX dX8_round_5 ?_
  refine cs_X8_isHand hX ml_X8_132 dX8_round_6 (m_X8_isHand_b _ G S _ true hhd) (Nat.le_of_ble_eq_true rfl) ?_
  first | with_reducible refine aw_ifeqB hX (tgt := 33) dX8_round_9 (by decide) (fun c_9 => ?_) (fun c_9 => ?_) | refine aw_ifeq hX (tgt := 33) dX8_round_9 (by decide) (fun c_9 => ?_) (fun c_9 => ?_)
  · cases c_9
  · skip
    refine aw_iload_2 hX dX8_round_12 ?_
    refine aw_iconst hX (v := nI 1) (by decide) dX8_round_13 ?_
    refine aw_bipush hX (v := nI 6) (by decide) dX8_round_14 ?_
    refine cs_X8_in hX ml_X8_60 dX8_round_16 (m_X8_in_b _ G S _ _ _ true (by rw [inR_nI (by omega) (by omega) (by omega)]; simp; omega)) (Nat.le_of_ble_eq_true rfl) ?_
    first | with_reducible refine aw_ifeqB hX (tgt := 33) dX8_round_19 (by decide) (fun c_19 => ?_) (fun c_19 => ?_) | refine aw_ifeq hX (tgt := 33) dX8_round_19 (by decide) (fun c_19 => ?_) (fun c_19 => ?_)
    · cases c_19
    · skip
      refine aw_iload_3 hX dX8_round_22 ?_
      refine aw_iconst hX (v := nI 0) (by decide) dX8_round_23 ?_
      refine aw_sipush hX (v := nI 800) (by decide) dX8_round_24 ?_
      refine cs_X8_in hX ml_X8_60 dX8_round_27 (m_X8_in_b _ G S _ _ _ true hday) (Nat.le_of_ble_eq_true rfl) ?_
      first | with_reducible refine aw_ifneB hX (tgt := 35) dX8_round_30 (by decide) (fun c_30 => ?_) (fun c_30 => ?_) | refine aw_ifne hX (tgt := 35) dX8_round_30 (by decide) (fun c_30 => ?_) (fun c_30 => ?_)
      · skip
        refine aw_iconst hX (v := nI 0) (by decide) dX8_round_35 ?_
        refine aw_istore_4 hX rfl (by decide) dX8_round_36 ?_
        refine aw_iconst hX (v := (-1)) (by decide) dX8_round_38 ?_
        refine aw_istore_5 hX rfl (by decide) dX8_round_39 ?_
        refine aw_iconst hX (v := nI 0) (by decide) dX8_round_41 ?_
        refine aw_istore_6 hX rfl (by decide) dX8_round_42 ?_
        refine outer n 0 S 0 (-1) _ _ _ _ (by omega) (Nat.le_refl _) hm rfl rfl rfl rfl (fun x5 x6 v7 v8 v9 v10 h7 h8 h9 h10 => ?_)
        have hm6 : (roM hd day n S 0 (-1)).2 ≤ 6 := by have := roM_le (hd := hd) (day := day) n S 0 (-1); omega
        refine aw_iconst hX (v := nI 0) (by decide) dX8_round_228 ?_
        refine aw_istore_6 hX rfl (by decide) dX8_round_229 ?_
        refine tin (roM hd day n S 0 (-1)).1 (roM hd day n S 0 (-1)).2 _ _ _ _ _ hm6 (roM hd day n S 0 (-1)).2 0 (by omega) (fun x6 => ?_)
        refine aw_aload_0 hX dX8_round_253 ?_
        refine aw_iload_4 hX dX8_round_254 ?_
        refine ap_X8_roundMany hX fl_X8_135 dX8_round_256 ?_
        refine aw_aload_0 hX dX8_round_259 ?_
        refine aw_ldc hX kc_X8_138 dX8_round_260 ?_
        refine aw_ti (y := nI 100000) (by decide) ?_
        refine ap_X8_way hX fl_X8_139 dX8_round_262 ?_
        refine aw_iconst hX (v := nI 1) (by decide) dX8_round_265 ?_
        refine aw_ti (show nI 1 = bI true from rfl) ?_
        refine aw_istore_6 hX rfl (by decide) dX8_round_266 ?_
        exact srch _ hm6 hPs hR 721 _ hP0 hmw _ _ _ _ _ h7 h8
      · cases c_30
