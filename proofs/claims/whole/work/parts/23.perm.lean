def TcOK (S : St) (n : Nat) : Prop := n ≤ 6 ∧ (∀ k, k < n → S.2.1 59 k = nI (tn (S.2.1 59 k)) ∧ tn (S.2.1 59 k) < n) ∧ ∀ j, j < n → S.2.1 58 j = nI (tn (S.2.1 58 j)) ∧ tn (S.2.1 58 j) < 12 ∧ ofM S (tn (S.2.1 58 j)) 5 = nI (tn (ofM S (tn (S.2.1 58 j)) 5)) ∧ tn (ofM S (tn (S.2.1 58 j)) 5) ≤ 20 ∧ ofM S (tn (S.2.1 58 j)) 6 = nI (tn (ofM S (tn (S.2.1 58 j)) 6)) ∧ tn (ofM S (tn (S.2.1 58 j)) 6) ≤ 20
def chM (S : St) (k : Nat) : Nat := tn (S.2.1 58 (tn (S.2.1 59 k)))
def pxM (S : St) (k : Nat) : Nat := tn (ofM S (chM S k) 5)
def pyM (S : St) (k : Nat) : Nat := tn (ofM S (chM S k) 6)
def wyL (px py : Nat → Nat) : Nat → Nat × Nat × Nat
  | 0 => (0, 0, 0)
  | k + 1 => (px k, py k, (wyL px py k).2.2 + adN (px k) (wyL px py k).1 + adN (py k) (wyL px py k).2.1)
def wyM (S : St) (n : Nat) : Nat := (wyL (pxM S) (pyM S) n).2.2 + (wyL (pxM S) (pyM S) n).1 + (wyL (pxM S) (pyM S) n).2.1
theorem wyL_le {px py : Nat → Nat} : ∀ (n : Nat), (∀ k, k < n → px k ≤ 20 ∧ py k ≤ 20) → (wyL px py n).1 ≤ 20 ∧ (wyL px py n).2.1 ≤ 20 ∧ (wyL px py n).2.2 ≤ 40 * n
  | 0, _ => ⟨Nat.zero_le _, Nat.zero_le _, Nat.zero_le _⟩
  | n + 1, h => by
    obtain ⟨a, b, c⟩ := wyL_le n (fun k hk => h k (by omega))
    obtain ⟨d1, d2⟩ := h n (by omega)
    have e1 := adN_le d1 a
    have e2 := adN_le d2 b
    exact ⟨d1, d2, by show _ + _ + _ ≤ _; omega⟩
theorem TcOK.p {S : St} {n : Nat} (h : TcOK S n) : ∀ k, k < n → pxM S k ≤ 20 ∧ pyM S k ≤ 20 := by
  intro k hk
  have h1 := h.2.1 k hk
  have h2 := h.2.2 _ h1.2
  exact ⟨h2.2.2.2.1, h2.2.2.2.2.2⟩
theorem adN_a {a b : Nat} (h : b ≤ a) : adN a b = a - b := by unfold adN; split <;> omega
theorem adN_b {a b : Nat} (h : a < b) : adN a b = b - a := by unfold adN; split <;> omega
set_option maxHeartbeats 4000000 in
set_option maxRecDepth 100000 in
theorem m_X8_wayOf (d : Nat) (G : GT) (S : St) (n : Nat) (htc : TcOK S n) : rX8_wayOf G (d + 2) [.ref (gad G 8), .int (nI n)] S (some (.int (nI (wyM S n)))) S := by
  refine runs_I (d := (d + 1)) (by decide) (Nat.le_of_ble_eq_true rfl) (fun X (hX : XC X G (d + 1) RX8 cX8_wayOf 8) hR => ?_)
  show AW X G 0 [.ref (gad G 8), .int (nI n), .null, .null, .null, .null, .null, .null] [] S
  have h6 := htc.1
  have exit : ∀ (x y v : Nat) (v6 v7 : Value), v = wyM S n → AW X G 10 [.ref (gad G 8), .int (nI n), .int (nI x), .int (nI y), .int (nI v), .int (nI (n + 1)), v6, v7] [] S := by
    intro x y v v6 v7 hv
    refine aw_iload_5 hX dX8_wayOf_10 ?_
    refine aw_iload_1 hX dX8_wayOf_12 ?_
    first | with_reducible refine aw_icmpgtN hX (tgt := 131) dX8_wayOf_13 (by decide) (by omega) (by omega) (fun c_13 => ?_) (fun c_13 => ?_) | refine aw_jgt hX (tgt := 131) dX8_wayOf_13 (by decide) (fun c_13 => ?_) (fun c_13 => ?_)
    · skip
      refine aw_iload_4 hX dX8_wayOf_131 ?_
      refine aw_finI (hR _ _ dX8_wayOf_133) ?_ ?_
      · rw [hv]
      · rfl
    · exact absurd c_13 (by omega)
  have loop : ∀ j k : Nat, k + j = n → ∀ (x y v : Nat) (v6 v7 : Value), (x, y, v) = wyL (pxM S) (pyM S) k → AW X G 10 [.ref (gad G 8), .int (nI n), .int (nI x), .int (nI y), .int (nI v), .int (nI k), v6, v7] [] S := by
    intro j
    induction j with
    | zero =>
      intro k hk x y v v6 v7 hp
      obtain rfl : k = n := by omega
      have hle := wyL_le k (fun i hi => htc.p i (by omega))
      rw [← hp] at hle
      simp only at hle
      refine aw_iload_5 hX dX8_wayOf_10 ?_
      refine aw_iload_1 hX dX8_wayOf_12 ?_
      first | with_reducible refine aw_icmpgtN hX (tgt := 131) dX8_wayOf_13 (by decide) (by omega) (by omega) (fun c_13 => ?_) (fun c_13 => ?_) | refine aw_jgt hX (tgt := 131) dX8_wayOf_13 (by decide) (fun c_13 => ?_) (fun c_13 => ?_)
      · exact absurd c_13 (by omega)
      · skip
        refine aw_iload_5 hX dX8_wayOf_16 ?_
        refine aw_iload_1 hX dX8_wayOf_18 ?_
        first | with_reducible refine aw_icmpneN hX (tgt := 26) dX8_wayOf_19 (by decide) (by omega) (by omega) (fun c_19 => ?_) (fun c_19 => ?_) | refine aw_icmpne hX (tgt := 26) dX8_wayOf_19 (by decide) (fun c_19 => ?_) (fun c_19 => ?_)
        · exact absurd (by omega) c_19
        · skip
          refine aw_iconst hX (v := nI 0) (by decide) dX8_wayOf_22 ?_
          refine aw_goto hX (tgt := 43) dX8_wayOf_23 (by decide) ?_
          refine aw_istore_6 hX rfl (by decide) dX8_wayOf_43 ?_
          refine aw_iload_5 hX dX8_wayOf_45 ?_
          refine aw_iload_1 hX dX8_wayOf_47 ?_
          first | with_reducible refine aw_icmpneN hX (tgt := 55) dX8_wayOf_48 (by decide) (by omega) (by omega) (fun c_48 => ?_) (fun c_48 => ?_) | refine aw_icmpne hX (tgt := 55) dX8_wayOf_48 (by decide) (fun c_48 => ?_) (fun c_48 => ?_)
          · exact absurd (by omega) c_48
          · skip
            refine aw_iconst hX (v := nI 0) (by decide) dX8_wayOf_51 ?_
            refine aw_goto hX (tgt := 73) dX8_wayOf_52 (by decide) ?_
            refine aw_istore_7 hX rfl (by decide) dX8_wayOf_73 ?_
            refine aw_iload_4 hX dX8_wayOf_75 ?_
            refine aw_iload_6 hX dX8_wayOf_77 ?_
            refine aw_iload_2 hX dX8_wayOf_79 ?_
            first | with_reducible refine aw_icmpgeN hX (tgt := 90) dX8_wayOf_80 (by decide) (by omega) (by omega) (fun c_80 => ?_) (fun c_80 => ?_) | refine aw_jge hX (tgt := 90) dX8_wayOf_80 (by decide) (fun c_80 => ?_) (fun c_80 => ?_)
            · skip
              refine aw_iload_6 hX dX8_wayOf_90 ?_
              refine aw_iload_2 hX dX8_wayOf_92 ?_
              first | with_reducible refine aw_isubN hX (by omega) dX8_wayOf_93 ?_ | refine aw_isub hX dX8_wayOf_93 ?_
              first | with_reducible refine aw_iaddN hX dX8_wayOf_94 ?_ | refine aw_iadd hX dX8_wayOf_94 ?_
              refine aw_ti (y := nI (v + adN 0 x)) (congrArg nI (by first | rw [adN_a (a := 0) (b := x) (by omega)] | rw [adN_b (a := 0) (b := x) (by omega)])) ?_
              refine aw_istore_4 hX rfl (by decide) dX8_wayOf_95 ?_
              refine aw_iload_4 hX dX8_wayOf_97 ?_
              refine aw_iload_7 hX dX8_wayOf_99 ?_
              refine aw_iload_3 hX dX8_wayOf_101 ?_
              first | with_reducible refine aw_icmpgeN hX (tgt := 112) dX8_wayOf_102 (by decide) (by omega) (by omega) (fun c_102 => ?_) (fun c_102 => ?_) | refine aw_jge hX (tgt := 112) dX8_wayOf_102 (by decide) (fun c_102 => ?_) (fun c_102 => ?_)
              · skip
                refine aw_iload_7 hX dX8_wayOf_112 ?_
                refine aw_iload_3 hX dX8_wayOf_114 ?_
                first | with_reducible refine aw_isubN hX (by omega) dX8_wayOf_115 ?_ | refine aw_isub hX dX8_wayOf_115 ?_
                first | with_reducible refine aw_iaddN hX dX8_wayOf_116 ?_ | refine aw_iadd hX dX8_wayOf_116 ?_
                refine aw_ti (y := nI (v + adN 0 x + adN 0 y)) (congrArg nI (by first | rw [adN_a (a := 0) (b := y) (by omega)] | rw [adN_b (a := 0) (b := y) (by omega)])) ?_
                refine aw_istore_4 hX rfl (by decide) dX8_wayOf_117 ?_
                refine aw_iload_6 hX dX8_wayOf_119 ?_
                refine aw_istore_2 hX rfl (by decide) dX8_wayOf_121 ?_
                refine aw_iload_7 hX dX8_wayOf_122 ?_
                refine aw_istore_3 hX rfl (by decide) dX8_wayOf_124 ?_
                first | with_reducible refine aw_iinc_5N hX rfl (by decide) dX8_wayOf_125 ?_ | refine aw_iinc_5 hX rfl (by decide) dX8_wayOf_125 ?_
                refine aw_goto hX (tgt := 10) dX8_wayOf_128 (by decide) ?_
                exact exit _ _ _ _ _ (by rw [wyM, ← hp]; simp only [adN, Nat.zero_le, if_true]; omega)
              · skip
                refine aw_iload_3 hX dX8_wayOf_105 ?_
                refine aw_iload_7 hX dX8_wayOf_106 ?_
                first | with_reducible refine aw_isubN hX (by omega) dX8_wayOf_108 ?_ | refine aw_isub hX dX8_wayOf_108 ?_
                refine aw_goto hX (tgt := 116) dX8_wayOf_109 (by decide) ?_
                first | with_reducible refine aw_iaddN hX dX8_wayOf_116 ?_ | refine aw_iadd hX dX8_wayOf_116 ?_
                refine aw_ti (y := nI (v + adN 0 x + adN 0 y)) (congrArg nI (by first | rw [adN_a (a := 0) (b := y) (by omega)] | rw [adN_b (a := 0) (b := y) (by omega)])) ?_
                refine aw_istore_4 hX rfl (by decide) dX8_wayOf_117 ?_
                refine aw_iload_6 hX dX8_wayOf_119 ?_
                refine aw_istore_2 hX rfl (by decide) dX8_wayOf_121 ?_
                refine aw_iload_7 hX dX8_wayOf_122 ?_
                refine aw_istore_3 hX rfl (by decide) dX8_wayOf_124 ?_
                first | with_reducible refine aw_iinc_5N hX rfl (by decide) dX8_wayOf_125 ?_ | refine aw_iinc_5 hX rfl (by decide) dX8_wayOf_125 ?_
                refine aw_goto hX (tgt := 10) dX8_wayOf_128 (by decide) ?_
                exact exit _ _ _ _ _ (by rw [wyM, ← hp]; simp only [adN, Nat.zero_le, if_true]; omega)
            · skip
              refine aw_iload_2 hX dX8_wayOf_83 ?_
              refine aw_iload_6 hX dX8_wayOf_84 ?_
              first | with_reducible refine aw_isubN hX (by omega) dX8_wayOf_86 ?_ | refine aw_isub hX dX8_wayOf_86 ?_
              refine aw_goto hX (tgt := 94) dX8_wayOf_87 (by decide) ?_
              first | with_reducible refine aw_iaddN hX dX8_wayOf_94 ?_ | refine aw_iadd hX dX8_wayOf_94 ?_
              refine aw_ti (y := nI (v + adN 0 x)) (congrArg nI (by first | rw [adN_a (a := 0) (b := x) (by omega)] | rw [adN_b (a := 0) (b := x) (by omega)])) ?_
              refine aw_istore_4 hX rfl (by decide) dX8_wayOf_95 ?_
              refine aw_iload_4 hX dX8_wayOf_97 ?_
              refine aw_iload_7 hX dX8_wayOf_99 ?_
              refine aw_iload_3 hX dX8_wayOf_101 ?_
              first | with_reducible refine aw_icmpgeN hX (tgt := 112) dX8_wayOf_102 (by decide) (by omega) (by omega) (fun c_102 => ?_) (fun c_102 => ?_) | refine aw_jge hX (tgt := 112) dX8_wayOf_102 (by decide) (fun c_102 => ?_) (fun c_102 => ?_)
              · skip
                refine aw_iload_7 hX dX8_wayOf_112 ?_
                refine aw_iload_3 hX dX8_wayOf_114 ?_
                first | with_reducible refine aw_isubN hX (by omega) dX8_wayOf_115 ?_ | refine aw_isub hX dX8_wayOf_115 ?_
                first | with_reducible refine aw_iaddN hX dX8_wayOf_116 ?_ | refine aw_iadd hX dX8_wayOf_116 ?_
                refine aw_ti (y := nI (v + adN 0 x + adN 0 y)) (congrArg nI (by first | rw [adN_a (a := 0) (b := y) (by omega)] | rw [adN_b (a := 0) (b := y) (by omega)])) ?_
                refine aw_istore_4 hX rfl (by decide) dX8_wayOf_117 ?_
                refine aw_iload_6 hX dX8_wayOf_119 ?_
                refine aw_istore_2 hX rfl (by decide) dX8_wayOf_121 ?_
                refine aw_iload_7 hX dX8_wayOf_122 ?_
                refine aw_istore_3 hX rfl (by decide) dX8_wayOf_124 ?_
                first | with_reducible refine aw_iinc_5N hX rfl (by decide) dX8_wayOf_125 ?_ | refine aw_iinc_5 hX rfl (by decide) dX8_wayOf_125 ?_
                refine aw_goto hX (tgt := 10) dX8_wayOf_128 (by decide) ?_
                exact exit _ _ _ _ _ (by rw [wyM, ← hp]; simp only [adN, Nat.zero_le, if_true]; omega)
              · skip
                refine aw_iload_3 hX dX8_wayOf_105 ?_
                refine aw_iload_7 hX dX8_wayOf_106 ?_
                first | with_reducible refine aw_isubN hX (by omega) dX8_wayOf_108 ?_ | refine aw_isub hX dX8_wayOf_108 ?_
                refine aw_goto hX (tgt := 116) dX8_wayOf_109 (by decide) ?_
                first | with_reducible refine aw_iaddN hX dX8_wayOf_116 ?_ | refine aw_iadd hX dX8_wayOf_116 ?_
                refine aw_ti (y := nI (v + adN 0 x + adN 0 y)) (congrArg nI (by first | rw [adN_a (a := 0) (b := y) (by omega)] | rw [adN_b (a := 0) (b := y) (by omega)])) ?_
                refine aw_istore_4 hX rfl (by decide) dX8_wayOf_117 ?_
                refine aw_iload_6 hX dX8_wayOf_119 ?_
                refine aw_istore_2 hX rfl (by decide) dX8_wayOf_121 ?_
                refine aw_iload_7 hX dX8_wayOf_122 ?_
                refine aw_istore_3 hX rfl (by decide) dX8_wayOf_124 ?_
                first | with_reducible refine aw_iinc_5N hX rfl (by decide) dX8_wayOf_125 ?_ | refine aw_iinc_5 hX rfl (by decide) dX8_wayOf_125 ?_
                refine aw_goto hX (tgt := 10) dX8_wayOf_128 (by decide) ?_
                exact exit _ _ _ _ _ (by rw [wyM, ← hp]; simp only [adN, Nat.zero_le, if_true]; omega)
    | succ j ih =>
      intro k hk x y v v6 v7 hp
      have h1 := htc.2.1 k (by omega)
      have h2 := htc.2.2 _ h1.2
      have hxx := htc.p k (by omega)
      have hle := wyL_le k (fun i hi => htc.p i (by omega))
      rw [← hp] at hle
      simp only at hle
      refine aw_iload_5 hX dX8_wayOf_10 ?_
      refine aw_iload_1 hX dX8_wayOf_12 ?_
      first | with_reducible refine aw_icmpgtN hX (tgt := 131) dX8_wayOf_13 (by decide) (by omega) (by omega) (fun c_13 => ?_) (fun c_13 => ?_) | refine aw_jgt hX (tgt := 131) dX8_wayOf_13 (by decide) (fun c_13 => ?_) (fun c_13 => ?_)
      · exact absurd c_13 (by omega)
      · skip
        refine aw_iload_5 hX dX8_wayOf_16 ?_
        refine aw_iload_1 hX dX8_wayOf_18 ?_
        first | with_reducible refine aw_icmpneN hX (tgt := 26) dX8_wayOf_19 (by decide) (by omega) (by omega) (fun c_19 => ?_) (fun c_19 => ?_) | refine aw_icmpne hX (tgt := 26) dX8_wayOf_19 (by decide) (fun c_19 => ?_) (fun c_19 => ?_)
        · skip
          refine aw_aload_0 hX dX8_wayOf_26 ?_
          refine aw_aload_0 hX dX8_wayOf_27 ?_
          refine ag_X8_chosen hX fl_X8_51 dX8_wayOf_28 ?_
          refine aw_aload_0 hX dX8_wayOf_31 ?_
          refine ag_X8_tried hX fl_X8_54 dX8_wayOf_32 ?_
          refine aw_iload_5 hX dX8_wayOf_35 ?_
          refine aw_iald hX dX8_wayOf_37 rfl (by decide) (by omega) ?_
          refine aw_ti h1.1 ?_
          refine aw_iald hX dX8_wayOf_38 rfl (by decide) (by omega) ?_
          refine aw_ti h2.1 ?_
          refine aw_iconst hX (v := nI 5) (by decide) dX8_wayOf_39 ?_
          refine cv_X8_of hX ml_X8_99 dX8_wayOf_40 (m_X8_of _ G S _ 5 h2.2.1 (by decide)) (Nat.le_of_ble_eq_true rfl) ?_
          refine aw_ti (y := nI (pxM S k)) h2.2.2.1 ?_
          refine aw_istore_6 hX rfl (by decide) dX8_wayOf_43 ?_
          refine aw_iload_5 hX dX8_wayOf_45 ?_
          refine aw_iload_1 hX dX8_wayOf_47 ?_
          first | with_reducible refine aw_icmpneN hX (tgt := 55) dX8_wayOf_48 (by decide) (by omega) (by omega) (fun c_48 => ?_) (fun c_48 => ?_) | refine aw_icmpne hX (tgt := 55) dX8_wayOf_48 (by decide) (fun c_48 => ?_) (fun c_48 => ?_)
          · skip
            refine aw_aload_0 hX dX8_wayOf_55 ?_
            refine aw_aload_0 hX dX8_wayOf_56 ?_
            refine ag_X8_chosen hX fl_X8_51 dX8_wayOf_57 ?_
            refine aw_aload_0 hX dX8_wayOf_60 ?_
            refine ag_X8_tried hX fl_X8_54 dX8_wayOf_61 ?_
            refine aw_iload_5 hX dX8_wayOf_64 ?_
            refine aw_iald hX dX8_wayOf_66 rfl (by decide) (by omega) ?_
            refine aw_ti h1.1 ?_
            refine aw_iald hX dX8_wayOf_67 rfl (by decide) (by omega) ?_
            refine aw_ti h2.1 ?_
            refine aw_bipush hX (v := nI 6) (by decide) dX8_wayOf_68 ?_
            refine cv_X8_of hX ml_X8_99 dX8_wayOf_70 (m_X8_of _ G S _ 6 h2.2.1 (by decide)) (Nat.le_of_ble_eq_true rfl) ?_
            refine aw_ti (y := nI (pyM S k)) h2.2.2.2.2.1 ?_
            refine aw_istore_7 hX rfl (by decide) dX8_wayOf_73 ?_
            refine aw_iload_4 hX dX8_wayOf_75 ?_
            refine aw_iload_6 hX dX8_wayOf_77 ?_
            refine aw_iload_2 hX dX8_wayOf_79 ?_
            first | with_reducible refine aw_icmpgeN hX (tgt := 90) dX8_wayOf_80 (by decide) (by omega) (by omega) (fun c_80 => ?_) (fun c_80 => ?_) | refine aw_jge hX (tgt := 90) dX8_wayOf_80 (by decide) (fun c_80 => ?_) (fun c_80 => ?_)
            · skip
              refine aw_iload_6 hX dX8_wayOf_90 ?_
              refine aw_iload_2 hX dX8_wayOf_92 ?_
              first | with_reducible refine aw_isubN hX (by omega) dX8_wayOf_93 ?_ | refine aw_isub hX dX8_wayOf_93 ?_
              first | with_reducible refine aw_iaddN hX dX8_wayOf_94 ?_ | refine aw_iadd hX dX8_wayOf_94 ?_
              refine aw_ti (y := nI (v + adN (pxM S k) x)) (congrArg nI (by first | rw [adN_a (a := (pxM S k)) (b := x) (by omega)] | rw [adN_b (a := (pxM S k)) (b := x) (by omega)])) ?_
              refine aw_istore_4 hX rfl (by decide) dX8_wayOf_95 ?_
              refine aw_iload_4 hX dX8_wayOf_97 ?_
              refine aw_iload_7 hX dX8_wayOf_99 ?_
              refine aw_iload_3 hX dX8_wayOf_101 ?_
              first | with_reducible refine aw_icmpgeN hX (tgt := 112) dX8_wayOf_102 (by decide) (by omega) (by omega) (fun c_102 => ?_) (fun c_102 => ?_) | refine aw_jge hX (tgt := 112) dX8_wayOf_102 (by decide) (fun c_102 => ?_) (fun c_102 => ?_)
              · skip
                refine aw_iload_7 hX dX8_wayOf_112 ?_
                refine aw_iload_3 hX dX8_wayOf_114 ?_
                first | with_reducible refine aw_isubN hX (by omega) dX8_wayOf_115 ?_ | refine aw_isub hX dX8_wayOf_115 ?_
                first | with_reducible refine aw_iaddN hX dX8_wayOf_116 ?_ | refine aw_iadd hX dX8_wayOf_116 ?_
                refine aw_ti (y := nI (v + adN (pxM S k) x + adN (pyM S k) y)) (congrArg nI (by first | rw [adN_a (a := (pyM S k)) (b := y) (by omega)] | rw [adN_b (a := (pyM S k)) (b := y) (by omega)])) ?_
                refine aw_istore_4 hX rfl (by decide) dX8_wayOf_117 ?_
                refine aw_iload_6 hX dX8_wayOf_119 ?_
                refine aw_istore_2 hX rfl (by decide) dX8_wayOf_121 ?_
                refine aw_iload_7 hX dX8_wayOf_122 ?_
                refine aw_istore_3 hX rfl (by decide) dX8_wayOf_124 ?_
                first | with_reducible refine aw_iinc_5N hX rfl (by decide) dX8_wayOf_125 ?_ | refine aw_iinc_5 hX rfl (by decide) dX8_wayOf_125 ?_
                refine aw_goto hX (tgt := 10) dX8_wayOf_128 (by decide) ?_
                exact ih (k + 1) (by omega) _ _ _ _ _ (by rw [wyL, ← hp])
              · skip
                refine aw_iload_3 hX dX8_wayOf_105 ?_
                refine aw_iload_7 hX dX8_wayOf_106 ?_
                first | with_reducible refine aw_isubN hX (by omega) dX8_wayOf_108 ?_ | refine aw_isub hX dX8_wayOf_108 ?_
                refine aw_goto hX (tgt := 116) dX8_wayOf_109 (by decide) ?_
                first | with_reducible refine aw_iaddN hX dX8_wayOf_116 ?_ | refine aw_iadd hX dX8_wayOf_116 ?_
                refine aw_ti (y := nI (v + adN (pxM S k) x + adN (pyM S k) y)) (congrArg nI (by first | rw [adN_a (a := (pyM S k)) (b := y) (by omega)] | rw [adN_b (a := (pyM S k)) (b := y) (by omega)])) ?_
                refine aw_istore_4 hX rfl (by decide) dX8_wayOf_117 ?_
                refine aw_iload_6 hX dX8_wayOf_119 ?_
                refine aw_istore_2 hX rfl (by decide) dX8_wayOf_121 ?_
                refine aw_iload_7 hX dX8_wayOf_122 ?_
                refine aw_istore_3 hX rfl (by decide) dX8_wayOf_124 ?_
                first | with_reducible refine aw_iinc_5N hX rfl (by decide) dX8_wayOf_125 ?_ | refine aw_iinc_5 hX rfl (by decide) dX8_wayOf_125 ?_
                refine aw_goto hX (tgt := 10) dX8_wayOf_128 (by decide) ?_
                exact ih (k + 1) (by omega) _ _ _ _ _ (by rw [wyL, ← hp])
            · skip
              refine aw_iload_2 hX dX8_wayOf_83 ?_
              refine aw_iload_6 hX dX8_wayOf_84 ?_
              first | with_reducible refine aw_isubN hX (by omega) dX8_wayOf_86 ?_ | refine aw_isub hX dX8_wayOf_86 ?_
              refine aw_goto hX (tgt := 94) dX8_wayOf_87 (by decide) ?_
              first | with_reducible refine aw_iaddN hX dX8_wayOf_94 ?_ | refine aw_iadd hX dX8_wayOf_94 ?_
              refine aw_ti (y := nI (v + adN (pxM S k) x)) (congrArg nI (by first | rw [adN_a (a := (pxM S k)) (b := x) (by omega)] | rw [adN_b (a := (pxM S k)) (b := x) (by omega)])) ?_
              refine aw_istore_4 hX rfl (by decide) dX8_wayOf_95 ?_
              refine aw_iload_4 hX dX8_wayOf_97 ?_
              refine aw_iload_7 hX dX8_wayOf_99 ?_
              refine aw_iload_3 hX dX8_wayOf_101 ?_
              first | with_reducible refine aw_icmpgeN hX (tgt := 112) dX8_wayOf_102 (by decide) (by omega) (by omega) (fun c_102 => ?_) (fun c_102 => ?_) | refine aw_jge hX (tgt := 112) dX8_wayOf_102 (by decide) (fun c_102 => ?_) (fun c_102 => ?_)
              · skip
                refine aw_iload_7 hX dX8_wayOf_112 ?_
                refine aw_iload_3 hX dX8_wayOf_114 ?_
                first | with_reducible refine aw_isubN hX (by omega) dX8_wayOf_115 ?_ | refine aw_isub hX dX8_wayOf_115 ?_
                first | with_reducible refine aw_iaddN hX dX8_wayOf_116 ?_ | refine aw_iadd hX dX8_wayOf_116 ?_
                refine aw_ti (y := nI (v + adN (pxM S k) x + adN (pyM S k) y)) (congrArg nI (by first | rw [adN_a (a := (pyM S k)) (b := y) (by omega)] | rw [adN_b (a := (pyM S k)) (b := y) (by omega)])) ?_
                refine aw_istore_4 hX rfl (by decide) dX8_wayOf_117 ?_
                refine aw_iload_6 hX dX8_wayOf_119 ?_
                refine aw_istore_2 hX rfl (by decide) dX8_wayOf_121 ?_
                refine aw_iload_7 hX dX8_wayOf_122 ?_
                refine aw_istore_3 hX rfl (by decide) dX8_wayOf_124 ?_
                first | with_reducible refine aw_iinc_5N hX rfl (by decide) dX8_wayOf_125 ?_ | refine aw_iinc_5 hX rfl (by decide) dX8_wayOf_125 ?_
                refine aw_goto hX (tgt := 10) dX8_wayOf_128 (by decide) ?_
                exact ih (k + 1) (by omega) _ _ _ _ _ (by rw [wyL, ← hp])
              · skip
                refine aw_iload_3 hX dX8_wayOf_105 ?_
                refine aw_iload_7 hX dX8_wayOf_106 ?_
                first | with_reducible refine aw_isubN hX (by omega) dX8_wayOf_108 ?_ | refine aw_isub hX dX8_wayOf_108 ?_
                refine aw_goto hX (tgt := 116) dX8_wayOf_109 (by decide) ?_
                first | with_reducible refine aw_iaddN hX dX8_wayOf_116 ?_ | refine aw_iadd hX dX8_wayOf_116 ?_
                refine aw_ti (y := nI (v + adN (pxM S k) x + adN (pyM S k) y)) (congrArg nI (by first | rw [adN_a (a := (pyM S k)) (b := y) (by omega)] | rw [adN_b (a := (pyM S k)) (b := y) (by omega)])) ?_
                refine aw_istore_4 hX rfl (by decide) dX8_wayOf_117 ?_
                refine aw_iload_6 hX dX8_wayOf_119 ?_
                refine aw_istore_2 hX rfl (by decide) dX8_wayOf_121 ?_
                refine aw_iload_7 hX dX8_wayOf_122 ?_
                refine aw_istore_3 hX rfl (by decide) dX8_wayOf_124 ?_
                first | with_reducible refine aw_iinc_5N hX rfl (by decide) dX8_wayOf_125 ?_ | refine aw_iinc_5 hX rfl (by decide) dX8_wayOf_125 ?_
                refine aw_goto hX (tgt := 10) dX8_wayOf_128 (by decide) ?_
                exact ih (k + 1) (by omega) _ _ _ _ _ (by rw [wyL, ← hp])
          · exact absurd c_48 (by omega)
        · exact absurd c_19 (by omega)
  refine aw_iconst hX (v := nI 0) (by decide) dX8_wayOf_0 ?_
  refine aw_istore_2 hX rfl (by decide) dX8_wayOf_1 ?_
  refine aw_iconst hX (v := nI 0) (by decide) dX8_wayOf_2 ?_
  refine aw_istore_3 hX rfl (by decide) dX8_wayOf_3 ?_
  refine aw_iconst hX (v := nI 0) (by decide) dX8_wayOf_4 ?_
  refine aw_istore_4 hX rfl (by decide) dX8_wayOf_5 ?_
  refine aw_iconst hX (v := nI 0) (by decide) dX8_wayOf_7 ?_
  refine aw_istore_5 hX rfl (by decide) dX8_wayOf_8 ?_
  exact loop n 0 (by omega) _ _ _ _ _ rfl
def gkL (f : Nat → Int32) : Nat → Option Nat
  | 0 => none
  | m + 1 => if f m ≤ f (m + 1) then some m else gkL f m
def gjL (f : Nat → Int32) (k : Nat) : Nat → Nat
  | 0 => 0
  | j + 1 => if f k ≤ f (j + 1) then j + 1 else gjL f k j
def swM (S : St) (a b : Nat) : St := sA (sA S 59 a (S.2.1 59 b)) 59 b (S.2.1 59 a)
def rvM : Nat → St → Nat → Nat → St
  | 0, S, _, _ => S
  | f + 1, S, a, b => if a < b then rvM f (swM S a b) (a + 1) (b - 1) else S
def goM (S : St) (n : Nat) : Bool × St := match gkL (S.2.1 59) (n - 1) with
  | none => (false, S)
  | some k => (true, rvM 6 (swM S k (gjL (S.2.1 59) k (n - 1))) (k + 1) (n - 1))
theorem gkL_lt {f : Nat → Int32} : ∀ {m k : Nat}, gkL f m = some k → k < m
  | 0, k, h => by cases h
  | m + 1, k, h => by
    unfold gkL at h
    split at h
    · cases h; exact Nat.lt_succ_self _
    · exact Nat.lt_succ_of_lt (gkL_lt h)
theorem gjL_le {f : Nat → Int32} {k : Nat} : ∀ j : Nat, gjL f k j ≤ j
  | 0 => Nat.le_refl _
  | j + 1 => by
    unfold gjL
    have := gjL_le (f := f) (k := k) j
    split <;> omega
theorem nmp {b : Nat} (h : 1 ≤ b) : nI b + Int32.ofInt (-1) = nI (b - 1) := by rw [nm1, pk_sub h]
theorem i_rfl (a : Int32) : a ≤ a := by rw [Int32.le_iff_toInt_le]; exact Int.le_refl _
theorem aw_L3 {X : XT} {G : GT} {pc : Nat} {a b c c' : Value} {t st : List Value} {S : St} (h : c = c') (k : AW X G pc (a :: b :: c' :: t) st S) : AW X G pc (a :: b :: c :: t) st S := h ▸ k
set_option maxHeartbeats 4000000 in
set_option maxRecDepth 100000 in
theorem m_X8_goesOn (d : Nat) (G : GT) (S : St) (n : Nat) (hn1 : 1 ≤ n) (hn6 : n ≤ 6) : rX8_goesOn G (d + 1) [.ref (gad G 8), .int (nI n)] S (some (.int (bI ((goM S n).1)))) (goM S n).2 := by
  refine runs_Z (d := d) (by decide) (Nat.le_of_ble_eq_true rfl) (fun X (hX : XC X G d RX8 cX8_goesOn 7) hR => ?_)
  show AW X G 0 [.ref (gad G 8), .int (nI n), .null, .null, .null, .null, .null] [] S
  have hlc : Value.int (nI n - nI 2) = Value.int (nI (n - 1) - nI 1) := congrArg Value.int (by rcases (show n = 1 ∨ n = 2 ∨ n = 3 ∨ n = 4 ∨ n = 5 ∨ n = 6 by omega) with rfl | rfl | rfl | rfl | rfl | rfl <;> decide)
  have l3 : ∀ (f : Nat) (S1 : St) (a b : Nat), b < n → a ≤ n → b ≤ a + f → (true, rvM f S1 a b) = goM S n → ∀ (x2 x3 x4 : Int32), AW X G 100 [.ref (gad G 8), .int (nI n), .int x2, .int x3, .int x4, .int (nI a), .int (nI b)] [] S1 := by
    intro f
    induction f with
    | zero =>
      intro S1 a b hb ha hab hp x2 x3 x4
      refine aw_iload_5 hX dX8_goesOn_100 ?_
      refine aw_iload_6 hX dX8_goesOn_102 ?_
      first | with_reducible refine aw_icmpgeN hX (tgt := 148) dX8_goesOn_104 (by decide) (by omega) (by omega) (fun c_104 => ?_) (fun c_104 => ?_) | refine aw_jge hX (tgt := 148) dX8_goesOn_104 (by decide) (fun c_104 => ?_) (fun c_104 => ?_)
      · skip
        refine aw_iconst hX (v := nI 1) (by decide) dX8_goesOn_148 ?_
        refine aw_finI (hR _ _ dX8_goesOn_149) ?_ ?_
        · exact bT (congrArg Prod.fst hp).symm
        · exact congrArg Prod.snd hp
      · exact absurd c_104 (by omega)
    | succ f ih =>
      intro S1 a b hb ha hab hp x2 x3 x4
      refine aw_iload_5 hX dX8_goesOn_100 ?_
      refine aw_iload_6 hX dX8_goesOn_102 ?_
      first | with_reducible refine aw_icmpgeN hX (tgt := 148) dX8_goesOn_104 (by decide) (by omega) (by omega) (fun c_104 => ?_) (fun c_104 => ?_) | refine aw_jge hX (tgt := 148) dX8_goesOn_104 (by decide) (fun c_104 => ?_) (fun c_104 => ?_)
      · rw [rvM, if_neg (by omega)] at hp
        refine aw_iconst hX (v := nI 1) (by decide) dX8_goesOn_148 ?_
        refine aw_finI (hR _ _ dX8_goesOn_149) ?_ ?_
        · exact bT (congrArg Prod.fst hp).symm
        · exact congrArg Prod.snd hp
      · rw [rvM, if_pos c_104] at hp
        refine aw_aload_0 hX dX8_goesOn_107 ?_
        refine ag_X8_tried hX fl_X8_54 dX8_goesOn_108 ?_
        refine aw_iload_5 hX dX8_goesOn_111 ?_
        refine aw_iald hX dX8_goesOn_113 rfl (by decide) (by omega) ?_
        refine aw_istore_4 hX rfl (by decide) dX8_goesOn_114 ?_
        refine aw_aload_0 hX dX8_goesOn_116 ?_
        refine ag_X8_tried hX fl_X8_54 dX8_goesOn_117 ?_
        refine aw_iload_5 hX dX8_goesOn_120 ?_
        refine aw_aload_0 hX dX8_goesOn_122 ?_
        refine ag_X8_tried hX fl_X8_54 dX8_goesOn_123 ?_
        refine aw_iload_6 hX dX8_goesOn_126 ?_
        refine aw_iald hX dX8_goesOn_128 rfl (by decide) (by omega) ?_
        refine aw_iast hX dX8_goesOn_129 rfl (fun _ => rfl) (by decide) (by omega) ?_
        refine aw_aload_0 hX dX8_goesOn_130 ?_
        refine ag_X8_tried hX fl_X8_54 dX8_goesOn_131 ?_
        try simp +decide only [sN_N, sN_A, sN_L, sN_R, sA_N, sA_A, sA_L, sA_R, sL_N, sL_A, sL_L, sL_R, sR_N, sR_A, sR_L, sR_R, reduceIte]
        refine aw_iload_6 hX dX8_goesOn_134 ?_
        refine aw_iload_4 hX dX8_goesOn_136 ?_
        refine aw_iast hX dX8_goesOn_138 rfl (fun _ => rfl) (by decide) (by omega) ?_
        first | with_reducible refine aw_iinc_5N hX rfl (by decide) dX8_goesOn_139 ?_ | refine aw_iinc_5 hX rfl (by decide) dX8_goesOn_139 ?_
        refine aw_iinc_6 hX rfl (by decide) dX8_goesOn_142 ?_
        refine aw_goto hX (tgt := 100) dX8_goesOn_145 (by decide) ?_
        rw [nmp (by omega)]; exact ih _ (a + 1) (b - 1) (by omega) (by omega) (by omega) hp _ _ _
  have l2 : ∀ (k : Nat), (∀ v4 v5 v6 : Value, v4.category = 1 → v5.category = 1 → AW X G 62 [.ref (gad G 8), .int (nI n), .int (nI k), .int (nI (gjL (S.2.1 59) k (n - 1))), v4, v5, v6] [] S) → ∀ (j : Nat), k ≤ j → j < n → gjL (S.2.1 59) k j = gjL (S.2.1 59) k (n - 1) → ∀ v4 v5 v6 : Value, v4.category = 1 → v5.category = 1 → AW X G 41 [.ref (gad G 8), .int (nI n), .int (nI k), .int (nI j), v4, v5, v6] [] S := by
    intro k hk j
    induction j with
    | zero =>
      intro hkj hj hp v4 v5 v6 h4 h5
      refine aw_aload_0 hX dX8_goesOn_41 ?_
      refine ag_X8_tried hX fl_X8_54 dX8_goesOn_42 ?_
      refine aw_iload_3 hX dX8_goesOn_45 ?_
      refine aw_iald hX dX8_goesOn_46 rfl (by decide) (by omega) ?_
      refine aw_aload_0 hX dX8_goesOn_47 ?_
      refine ag_X8_tried hX fl_X8_54 dX8_goesOn_48 ?_
      refine aw_iload_2 hX dX8_goesOn_51 ?_
      refine aw_iald hX dX8_goesOn_52 rfl (by decide) (by omega) ?_
      first | with_reducible refine aw_icmpgeN hX (tgt := 62) dX8_goesOn_53 (by decide) (by omega) (by omega) (fun c_53 => ?_) (fun c_53 => ?_) | refine aw_jge hX (tgt := 62) dX8_goesOn_53 (by decide) (fun c_53 => ?_) (fun c_53 => ?_)
      · skip
        rw [← hp] at hk; exact hk _ _ _ h4 h5
      · exact absurd (by rw [show k = 0 by omega]; exact i_rfl _) c_53
    | succ j ih =>
      intro hkj hj hp v4 v5 v6 h4 h5
      refine aw_aload_0 hX dX8_goesOn_41 ?_
      refine ag_X8_tried hX fl_X8_54 dX8_goesOn_42 ?_
      refine aw_iload_3 hX dX8_goesOn_45 ?_
      refine aw_iald hX dX8_goesOn_46 rfl (by decide) (by omega) ?_
      refine aw_aload_0 hX dX8_goesOn_47 ?_
      refine ag_X8_tried hX fl_X8_54 dX8_goesOn_48 ?_
      refine aw_iload_2 hX dX8_goesOn_51 ?_
      refine aw_iald hX dX8_goesOn_52 rfl (by decide) (by omega) ?_
      first | with_reducible refine aw_icmpgeN hX (tgt := 62) dX8_goesOn_53 (by decide) (by omega) (by omega) (fun c_53 => ?_) (fun c_53 => ?_) | refine aw_jge hX (tgt := 62) dX8_goesOn_53 (by decide) (fun c_53 => ?_) (fun c_53 => ?_)
      · rw [gjL, if_pos c_53] at hp
        rw [← hp] at hk; exact hk _ _ _ h4 h5
      · rw [gjL, if_neg c_53] at hp
        have hkj : k ≠ j + 1 := fun e => c_53 (by rw [e]; exact i_rfl _)
        refine aw_iinc_3 hX rfl (by decide) dX8_goesOn_56 ?_
        refine aw_goto hX (tgt := 41) dX8_goesOn_59 (by decide) ?_
        rw [nmp (by omega)]; exact ih (by omega) (by omega) hp _ _ _ h4 h5
  have l1 : (∀ m, gkL (S.2.1 59) (n - 1) = some m → AW X G 37 [.ref (gad G 8), .int (nI n), .int (nI m), .null, .null, .null, .null] [] S) → ∀ m : Nat, m + 1 ≤ n → gkL (S.2.1 59) m = gkL (S.2.1 59) (n - 1) → AW X G 4 [.ref (gad G 8), .int (nI n), .int (nI m - nI 1), .null, .null, .null, .null] [] S := by
    intro hk m
    induction m with
    | zero =>
      intro hm hp
      refine aw_iload_2 hX dX8_goesOn_4 ?_
      refine aw_iflt hX (tgt := 31) dX8_goesOn_5 (by decide) (fun c_5 => ?_) (fun c_5 => ?_)
      · skip
        refine aw_iload_2 hX dX8_goesOn_31 ?_
        refine aw_ifge hX (tgt := 37) dX8_goesOn_32 (by decide) (fun c_32 => ?_) (fun c_32 => ?_)
        · exact absurd c_32 (by decide)
        · skip
          refine aw_iconst hX (v := nI 0) (by decide) dX8_goesOn_35 ?_
          refine aw_finI (hR _ _ dX8_goesOn_36) ?_ ?_
          · exact bF (by rw [goM, ← hp]; rfl)
          · rw [goM, ← hp]; rfl
      · exact absurd (by decide) c_5
    | succ m ih =>
      intro hm hp
      rw [np1]
      refine aw_iload_2 hX dX8_goesOn_4 ?_
      refine aw_iflt hX (tgt := 31) dX8_goesOn_5 (by decide) (fun c_5 => ?_) (fun c_5 => ?_)
      · exact absurd c_5 (nI_pos (by omega))
      · skip
        refine aw_aload_0 hX dX8_goesOn_8 ?_
        refine ag_X8_tried hX fl_X8_54 dX8_goesOn_9 ?_
        refine aw_iload_2 hX dX8_goesOn_12 ?_
        refine aw_iald hX dX8_goesOn_13 rfl (by decide) (by omega) ?_
        refine aw_aload_0 hX dX8_goesOn_14 ?_
        refine ag_X8_tried hX fl_X8_54 dX8_goesOn_15 ?_
        refine aw_iload_2 hX dX8_goesOn_18 ?_
        refine aw_iconst hX (v := nI 1) (by decide) dX8_goesOn_19 ?_
        first | with_reducible refine aw_iaddN hX dX8_goesOn_20 ?_ | refine aw_iadd hX dX8_goesOn_20 ?_
        refine aw_iald hX dX8_goesOn_21 rfl (by decide) (by omega) ?_
        refine aw_jle hX (tgt := 31) dX8_goesOn_22 (by decide) (fun c_22 => ?_) (fun c_22 => ?_)
        · rw [gkL, if_pos c_22] at hp
          refine aw_iload_2 hX dX8_goesOn_31 ?_
          refine aw_ifge hX (tgt := 37) dX8_goesOn_32 (by decide) (fun c_32 => ?_) (fun c_32 => ?_)
          · skip
            exact hk m hp.symm
          · exact absurd (nI_pos' (by omega)) c_32
        · rw [gkL, if_neg c_22] at hp
          refine aw_iinc_2 hX rfl (by decide) dX8_goesOn_25 ?_
          refine aw_goto hX (tgt := 4) dX8_goesOn_28 (by decide) ?_
          rw [nm1]; exact ih (by omega) hp
  refine aw_iload_1 hX dX8_goesOn_0 ?_
  refine aw_iconst hX (v := nI 2) (by decide) dX8_goesOn_1 ?_
  refine aw_isub hX dX8_goesOn_2 ?_
  refine aw_istore_2 hX rfl (by decide) dX8_goesOn_3 ?_
  refine aw_L3 hlc ?_
  refine l1 (fun k hm => ?_) (n - 1) (by omega) rfl
  have hkn := gkL_lt hm
  have hjl := gjL_le (f := S.2.1 59) (k := k) (n - 1)
  refine aw_iload_1 hX dX8_goesOn_37 ?_
  refine aw_iconst hX (v := nI 1) (by decide) dX8_goesOn_38 ?_
  first | with_reducible refine aw_isubN hX (by omega) dX8_goesOn_39 ?_ | refine aw_isub hX dX8_goesOn_39 ?_
  refine aw_istore_3 hX rfl (by decide) dX8_goesOn_40 ?_
  refine l2 k (fun v4 v5 v6 h4 h5 => ?_) (n - 1) (by omega) (by omega) rfl _ _ _ rfl rfl
  refine aw_aload_0 hX dX8_goesOn_62 ?_
  refine ag_X8_tried hX fl_X8_54 dX8_goesOn_63 ?_
  refine aw_iload_2 hX dX8_goesOn_66 ?_
  refine aw_iald hX dX8_goesOn_67 rfl (by decide) (by omega) ?_
  refine aw_istore_4 hX rfl (by decide) dX8_goesOn_68 ?_
  refine aw_aload_0 hX dX8_goesOn_70 ?_
  refine ag_X8_tried hX fl_X8_54 dX8_goesOn_71 ?_
  refine aw_iload_2 hX dX8_goesOn_74 ?_
  refine aw_aload_0 hX dX8_goesOn_75 ?_
  refine ag_X8_tried hX fl_X8_54 dX8_goesOn_76 ?_
  refine aw_iload_3 hX dX8_goesOn_79 ?_
  refine aw_iald hX dX8_goesOn_80 rfl (by decide) (by omega) ?_
  refine aw_iast hX dX8_goesOn_81 rfl (fun _ => rfl) (by decide) (by omega) ?_
  refine aw_aload_0 hX dX8_goesOn_82 ?_
  refine ag_X8_tried hX fl_X8_54 dX8_goesOn_83 ?_
  try simp +decide only [sN_N, sN_A, sN_L, sN_R, sA_N, sA_A, sA_L, sA_R, sL_N, sL_A, sL_L, sL_R, sR_N, sR_A, sR_L, sR_R, reduceIte]
  refine aw_iload_3 hX dX8_goesOn_86 ?_
  refine aw_iload_4 hX dX8_goesOn_87 ?_
  refine aw_iast hX dX8_goesOn_89 rfl (fun _ => rfl) (by decide) (by omega) ?_
  refine aw_iload_2 hX dX8_goesOn_90 ?_
  refine aw_iconst hX (v := nI 1) (by decide) dX8_goesOn_91 ?_
  first | with_reducible refine aw_iaddN hX dX8_goesOn_92 ?_ | refine aw_iadd hX dX8_goesOn_92 ?_
  refine aw_istore_5 hX rfl (by decide) dX8_goesOn_93 ?_
  refine aw_iload_1 hX dX8_goesOn_95 ?_
  refine aw_iconst hX (v := nI 1) (by decide) dX8_goesOn_96 ?_
  first | with_reducible refine aw_isubN hX (by omega) dX8_goesOn_97 ?_ | refine aw_isub hX dX8_goesOn_97 ?_
  refine aw_istore_6 hX rfl (by decide) dX8_goesOn_98 ?_
  exact l3 6 _ (k + 1) (n - 1) (by omega) (by omega) (by omega) (by rw [goM, hm]; rfl) _ _ _
set_option maxHeartbeats 4000000 in
set_option maxRecDepth 100000 in
theorem m_X8_goesOn_0 (d : Nat) (G : GT) (S : St)  : rX8_goesOn G (d + 1) [.ref (gad G 8), .int (nI 0)] S (some (.int (bI (false)))) S := by
  refine runs_Z (d := d) (by decide) (Nat.le_of_ble_eq_true rfl) (fun X (hX : XC X G d RX8 cX8_goesOn 7) hR => ?_)
  show AW X G 0 [.ref (gad G 8), .int (nI 0), .null, .null, .null, .null, .null] [] S
  refine aw_iload_1 hX dX8_goesOn_0 ?_
  refine aw_iconst hX (v := nI 2) (by decide) dX8_goesOn_1 ?_
  refine aw_isub hX dX8_goesOn_2 ?_
  refine aw_istore_2 hX rfl (by decide) dX8_goesOn_3 ?_
  refine aw_iload_2 hX dX8_goesOn_4 ?_
  refine aw_iflt hX (tgt := 31) dX8_goesOn_5 (by decide) (fun c_5 => ?_) (fun c_5 => ?_)
  · skip
    refine aw_iload_2 hX dX8_goesOn_31 ?_
    refine aw_ifge hX (tgt := 37) dX8_goesOn_32 (by decide) (fun c_32 => ?_) (fun c_32 => ?_)
    · exact absurd c_32 (by decide)
    · skip
      refine aw_iconst hX (v := nI 0) (by decide) dX8_goesOn_35 ?_
      refine aw_finI (hR _ _ dX8_goesOn_36) ?_ ?_
      · exact bF rfl
      · rfl
  · exact absurd (by decide) c_5
