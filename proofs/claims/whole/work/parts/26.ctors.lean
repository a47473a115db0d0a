def fin0 (cI cZ : ClassId) (h : Nat) (q : Nat → Nat) : va_W := [(h, .inr (0, [.ref (q 0), .int (nI 0), .ref (q 1), .ref (q 2), .ref (q 3), .int (nI 0), .int (nI 0), .int (nI 0), .int (nI 0)])),
  (q 0, .inl (cI, 60, .inl (fun _ => 0))),
  (q 1, .inl (cI, 30, .inl (fun _ => 0))),
  (q 2, .inl (cI, 30, .inl (fun _ => 0))),
  (q 3, .inl (cI, 30, .inl (fun _ => 0)))]
theorem kc_X0_init : KC yX0_init cX0_init := ⟨in_X0, co_yX0_init, by decide +kernel, rfl, im_yX0_init⟩
set_option maxHeartbeats 4000000 in
set_option maxRecDepth 100000 in
theorem m_X0_init (d : Nat) (D : va_G) (cI cZ : ClassId) : CtM D cI cZ (fun _ => True) (d + 1) 4 150 yX0_init cX0_init 0 [.null, .int 0, .null, .null, .null, .int 0, .int 0, .int 0, .int 0] (fin0 cI cZ) := by
  refine ctm_of (by decide) rfl (fun X h0 hN (hX : CX X D cI cZ d 4 150 RX0 cX0_init 1 true) hR => ?_)
  refine cw_aload_0 hX dX0_init_0 ?_
  refine cw_objinit hX ml_X0_3 dX0_init_1 (by decide) ?_
  refine cw_aload_0 hX dX0_init_4 ?_
  refine cw_bipush hX (v := nI 60) (by decide) dX0_init_5 ?_
  refine cw_newaI hX (N := 60) dX0_init_7 (by decide) (by decide) (by decide) (fun q0 => ?_)
  refine cpf_X0 hX (k := 0) (q0 := 0) (by decide) fl_X0_11 dX0_init_9 rfl rfl rfl rfl rfl rfl rfl rfl (Nat.le_of_ble_eq_true rfl) ?_
  refine cw_nf (ws' := [(h0, .inr (0, [.ref q0, .int 0, .null, .null, .null, .int 0, .int 0, .int 0, .int 0])), (q0, .inl (cI, 60, .inl (fun _ => 0)))]) (kc' := 1) (ks' := 60) rfl rfl rfl ?_
  refine cw_aload_0 hX dX0_init_12 ?_
  refine cw_iconst hX (v := nI 0) (by decide) dX0_init_13 ?_
  refine cpn_X0 hX (k := 1) (q0 := 0) (by decide) fl_X0_15 dX0_init_14 rfl rfl rfl rfl rfl rfl (Nat.le_of_ble_eq_true rfl) ?_
  refine cw_nf (ws' := [(h0, .inr (0, [.ref q0, .int (nI 0), .null, .null, .null, .int 0, .int 0, .int 0, .int 0])), (q0, .inl (cI, 60, .inl (fun _ => 0)))]) (kc' := 1) (ks' := 60) rfl rfl rfl ?_
  refine cw_aload_0 hX dX0_init_17 ?_
  refine cw_bipush hX (v := nI 30) (by decide) dX0_init_18 ?_
  refine cw_newaI hX (N := 30) dX0_init_20 (by decide) (by decide) (by decide) (fun q1 => ?_)
  refine cpf_X0 hX (k := 2) (q0 := 0) (by decide) fl_X0_19 dX0_init_22 rfl rfl rfl rfl rfl rfl rfl rfl (Nat.le_of_ble_eq_true rfl) ?_
  refine cw_nf (ws' := [(h0, .inr (0, [.ref q0, .int (nI 0), .ref q1, .null, .null, .int 0, .int 0, .int 0, .int 0])), (q0, .inl (cI, 60, .inl (fun _ => 0))), (q1, .inl (cI, 30, .inl (fun _ => 0)))]) (kc' := 2) (ks' := 90) rfl rfl rfl ?_
  refine cw_aload_0 hX dX0_init_25 ?_
  refine cw_bipush hX (v := nI 30) (by decide) dX0_init_26 ?_
  refine cw_newaI hX (N := 30) dX0_init_28 (by decide) (by decide) (by decide) (fun q2 => ?_)
  refine cpf_X0 hX (k := 3) (q0 := 0) (by decide) fl_X0_22 dX0_init_30 rfl rfl rfl rfl rfl rfl rfl rfl (Nat.le_of_ble_eq_true rfl) ?_
  refine cw_nf (ws' := [(h0, .inr (0, [.ref q0, .int (nI 0), .ref q1, .ref q2, .null, .int 0, .int 0, .int 0, .int 0])), (q0, .inl (cI, 60, .inl (fun _ => 0))), (q1, .inl (cI, 30, .inl (fun _ => 0))), (q2, .inl (cI, 30, .inl (fun _ => 0)))]) (kc' := 3) (ks' := 120) rfl rfl rfl ?_
  refine cw_aload_0 hX dX0_init_33 ?_
  refine cw_bipush hX (v := nI 30) (by decide) dX0_init_34 ?_
  refine cw_newaI hX (N := 30) dX0_init_36 (by decide) (by decide) (by decide) (fun q3 => ?_)
  refine cpf_X0 hX (k := 4) (q0 := 0) (by decide) fl_X0_25 dX0_init_38 rfl rfl rfl rfl rfl rfl rfl rfl (Nat.le_of_ble_eq_true rfl) ?_
  refine cw_nf (ws' := [(h0, .inr (0, [.ref q0, .int (nI 0), .ref q1, .ref q2, .ref q3, .int 0, .int 0, .int 0, .int 0])), (q0, .inl (cI, 60, .inl (fun _ => 0))), (q1, .inl (cI, 30, .inl (fun _ => 0))), (q2, .inl (cI, 30, .inl (fun _ => 0))), (q3, .inl (cI, 30, .inl (fun _ => 0)))]) (kc' := 4) (ks' := 150) rfl rfl rfl ?_
  refine cw_aload_0 hX dX0_init_41 ?_
  refine cw_iconst hX (v := nI 0) (by decide) dX0_init_42 ?_
  refine cpn_X0 hX (k := 5) (q0 := 0) (by decide) fl_X0_28 dX0_init_43 rfl rfl rfl rfl rfl rfl (Nat.le_of_ble_eq_true rfl) ?_
  refine cw_nf (ws' := [(h0, .inr (0, [.ref q0, .int (nI 0), .ref q1, .ref q2, .ref q3, .int (nI 0), .int 0, .int 0, .int 0])), (q0, .inl (cI, 60, .inl (fun _ => 0))), (q1, .inl (cI, 30, .inl (fun _ => 0))), (q2, .inl (cI, 30, .inl (fun _ => 0))), (q3, .inl (cI, 30, .inl (fun _ => 0)))]) (kc' := 4) (ks' := 150) rfl rfl rfl ?_
  refine cw_aload_0 hX dX0_init_46 ?_
  refine cw_iconst hX (v := nI 0) (by decide) dX0_init_47 ?_
  refine cpn_X0 hX (k := 6) (q0 := 0) (by decide) fl_X0_31 dX0_init_48 rfl rfl rfl rfl rfl rfl (Nat.le_of_ble_eq_true rfl) ?_
  refine cw_nf (ws' := [(h0, .inr (0, [.ref q0, .int (nI 0), .ref q1, .ref q2, .ref q3, .int (nI 0), .int (nI 0), .int 0, .int 0])), (q0, .inl (cI, 60, .inl (fun _ => 0))), (q1, .inl (cI, 30, .inl (fun _ => 0))), (q2, .inl (cI, 30, .inl (fun _ => 0))), (q3, .inl (cI, 30, .inl (fun _ => 0)))]) (kc' := 4) (ks' := 150) rfl rfl rfl ?_
  refine cw_aload_0 hX dX0_init_51 ?_
  refine cw_iconst hX (v := nI 0) (by decide) dX0_init_52 ?_
  refine cpn_X0 hX (k := 7) (q0 := 0) (by decide) fl_X0_34 dX0_init_53 rfl rfl rfl rfl rfl rfl (Nat.le_of_ble_eq_true rfl) ?_
  refine cw_nf (ws' := [(h0, .inr (0, [.ref q0, .int (nI 0), .ref q1, .ref q2, .ref q3, .int (nI 0), .int (nI 0), .int (nI 0), .int 0])), (q0, .inl (cI, 60, .inl (fun _ => 0))), (q1, .inl (cI, 30, .inl (fun _ => 0))), (q2, .inl (cI, 30, .inl (fun _ => 0))), (q3, .inl (cI, 30, .inl (fun _ => 0)))]) (kc' := 4) (ks' := 150) rfl rfl rfl ?_
  refine cw_aload_0 hX dX0_init_56 ?_
  refine cw_iconst hX (v := nI 0) (by decide) dX0_init_57 ?_
  refine cpn_X0 hX (k := 8) (q0 := 0) (by decide) fl_X0_37 dX0_init_58 rfl rfl rfl rfl rfl rfl (Nat.le_of_ble_eq_true rfl) ?_
  refine cw_nf (ws' := [(h0, .inr (0, [.ref q0, .int (nI 0), .ref q1, .ref q2, .ref q3, .int (nI 0), .int (nI 0), .int (nI 0), .int (nI 0)])), (q0, .inl (cI, 60, .inl (fun _ => 0))), (q1, .inl (cI, 30, .inl (fun _ => 0))), (q2, .inl (cI, 30, .inl (fun _ => 0))), (q3, .inl (cI, 30, .inl (fun _ => 0)))]) (kc' := 4) (ks' := 150) rfl rfl rfl ?_
  exact hR _ _ (fun i => ([q0, q1, q2, q3] : List Nat).getD i 0) dX0_init_61
def fin1 (cI cZ : ClassId) (h : Nat) (q : Nat → Nat) : va_W := [(h, .inr (1, [.ref (q 0), .ref (q 1), .int (nI 0)])),
  (q 0, .inl (cI, 10, .inl (fun _ => 0))),
  (q 1, .inl (cI, 10, .inl (fun _ => 0)))]
theorem kc_X1_init : KC yX1_init cX1_init := ⟨in_X1, co_yX1_init, by decide +kernel, rfl, im_yX1_init⟩
set_option maxHeartbeats 4000000 in
set_option maxRecDepth 100000 in
theorem m_X1_init (d : Nat) (D : va_G) (cI cZ : ClassId) : CtM D cI cZ (fun _ => True) (d + 1) 2 20 yX1_init cX1_init 1 [.null, .null, .int 0] (fin1 cI cZ) := by
  refine ctm_of (by decide) rfl (fun X h0 hN (hX : CX X D cI cZ d 2 20 RX1 cX1_init 1 true) hR => ?_)
  refine cw_aload_0 hX dX1_init_0 ?_
  refine cw_objinit hX ml_X1_1 dX1_init_1 (by decide) ?_
  refine cw_aload_0 hX dX1_init_4 ?_
  refine cw_bipush hX (v := nI 10) (by decide) dX1_init_5 ?_
  refine cw_newaI hX (N := 10) dX1_init_7 (by decide) (by decide) (by decide) (fun q0 => ?_)
  refine cpf_X1 hX (k := 0) (q0 := 0) (by decide) fl_X1_9 dX1_init_9 rfl rfl rfl rfl rfl rfl rfl rfl (Nat.le_of_ble_eq_true rfl) ?_
  refine cw_nf (ws' := [(h0, .inr (1, [.ref q0, .null, .int 0])), (q0, .inl (cI, 10, .inl (fun _ => 0)))]) (kc' := 1) (ks' := 10) rfl rfl rfl ?_
  refine cw_aload_0 hX dX1_init_12 ?_
  refine cw_bipush hX (v := nI 10) (by decide) dX1_init_13 ?_
  refine cw_newaI hX (N := 10) dX1_init_15 (by decide) (by decide) (by decide) (fun q1 => ?_)
  refine cpf_X1 hX (k := 1) (q0 := 0) (by decide) fl_X1_13 dX1_init_17 rfl rfl rfl rfl rfl rfl rfl rfl (Nat.le_of_ble_eq_true rfl) ?_
  refine cw_nf (ws' := [(h0, .inr (1, [.ref q0, .ref q1, .int 0])), (q0, .inl (cI, 10, .inl (fun _ => 0))), (q1, .inl (cI, 10, .inl (fun _ => 0)))]) (kc' := 2) (ks' := 20) rfl rfl rfl ?_
  refine cw_aload_0 hX dX1_init_20 ?_
  refine cw_iconst hX (v := nI 0) (by decide) dX1_init_21 ?_
  refine cpn_X1 hX (k := 2) (q0 := 0) (by decide) fl_X1_16 dX1_init_22 rfl rfl rfl rfl rfl rfl (Nat.le_of_ble_eq_true rfl) ?_
  refine cw_nf (ws' := [(h0, .inr (1, [.ref q0, .ref q1, .int (nI 0)])), (q0, .inl (cI, 10, .inl (fun _ => 0))), (q1, .inl (cI, 10, .inl (fun _ => 0)))]) (kc' := 2) (ks' := 20) rfl rfl rfl ?_
  exact hR _ _ (fun i => ([q0, q1] : List Nat).getD i 0) dX1_init_25
def fin2 (cI cZ : ClassId) (h : Nat) (q : Nat → Nat) : va_W := [(h, .inr (2, [.ref (q 0), .ref (q 1), .ref (q 2), .ref (q 3), .ref (q 4), .ref (q 5), .ref (q 6), .ref (q 7), .ref (q 8), .ref (q 9), .ref (q 10), .int (nI 0)])),
  (q 0, .inl (cI, 12, .inl (fun _ => 0))),
  (q 1, .inl (cI, 12, .inl (fun _ => 0))),
  (q 2, .inl (cI, 12, .inl (fun _ => 0))),
  (q 3, .inl (cI, 12, .inl (fun _ => 0))),
  (q 4, .inl (cI, 12, .inl (fun _ => 0))),
  (q 5, .inl (cI, 12, .inl (fun _ => 0))),
  (q 6, .inl (cI, 12, .inl (fun _ => 0))),
  (q 7, .inl (cI, 12, .inl (fun _ => 0))),
  (q 8, .inl (cI, 12, .inl (fun _ => 0))),
  (q 9, .inl (cI, 12, .inl (fun _ => 0))),
  (q 10, .inl (cI, 12, .inl (fun _ => 0)))]
theorem kc_X2_init : KC yX2_init cX2_init := ⟨in_X2, co_yX2_init, by decide +kernel, rfl, im_yX2_init⟩
set_option maxHeartbeats 4000000 in
set_option maxRecDepth 100000 in
theorem m_X2_init (d : Nat) (D : va_G) (cI cZ : ClassId) : CtM D cI cZ (fun _ => True) (d + 1) 11 132 yX2_init cX2_init 2 [.null, .null, .null, .null, .null, .null, .null, .null, .null, .null, .null, .int 0] (fin2 cI cZ) := by
  refine ctm_of (by decide) rfl (fun X h0 hN (hX : CX X D cI cZ d 11 132 RX2 cX2_init 1 true) hR => ?_)
  refine cw_aload_0 hX dX2_init_0 ?_
  refine cw_objinit hX ml_X2_3 dX2_init_1 (by decide) ?_
  refine cw_aload_0 hX dX2_init_4 ?_
  refine cw_bipush hX (v := nI 12) (by decide) dX2_init_5 ?_
  refine cw_newaI hX (N := 12) dX2_init_7 (by decide) (by decide) (by decide) (fun q0 => ?_)
  refine cpf_X2 hX (k := 0) (q0 := 0) (by decide) fl_X2_11 dX2_init_9 rfl rfl rfl rfl rfl rfl rfl rfl (Nat.le_of_ble_eq_true rfl) ?_
  refine cw_nf (ws' := [(h0, .inr (2, [.ref q0, .null, .null, .null, .null, .null, .null, .null, .null, .null, .null, .int 0])), (q0, .inl (cI, 12, .inl (fun _ => 0)))]) (kc' := 1) (ks' := 12) rfl rfl rfl ?_
  refine cw_aload_0 hX dX2_init_12 ?_
  refine cw_bipush hX (v := nI 12) (by decide) dX2_init_13 ?_
  refine cw_newaI hX (N := 12) dX2_init_15 (by decide) (by decide) (by decide) (fun q1 => ?_)
  refine cpf_X2 hX (k := 1) (q0 := 0) (by decide) fl_X2_15 dX2_init_17 rfl rfl rfl rfl rfl rfl rfl rfl (Nat.le_of_ble_eq_true rfl) ?_
  refine cw_nf (ws' := [(h0, .inr (2, [.ref q0, .ref q1, .null, .null, .null, .null, .null, .null, .null, .null, .null, .int 0])), (q0, .inl (cI, 12, .inl (fun _ => 0))), (q1, .inl (cI, 12, .inl (fun _ => 0)))]) (kc' := 2) (ks' := 24) rfl rfl rfl ?_
  refine cw_aload_0 hX dX2_init_20 ?_
  refine cw_bipush hX (v := nI 12) (by decide) dX2_init_21 ?_
  refine cw_newaI hX (N := 12) dX2_init_23 (by decide) (by decide) (by decide) (fun q2 => ?_)
  refine cpf_X2 hX (k := 2) (q0 := 0) (by decide) fl_X2_18 dX2_init_25 rfl rfl rfl rfl rfl rfl rfl rfl (Nat.le_of_ble_eq_true rfl) ?_
  refine cw_nf (ws' := [(h0, .inr (2, [.ref q0, .ref q1, .ref q2, .null, .null, .null, .null, .null, .null, .null, .null, .int 0])), (q0, .inl (cI, 12, .inl (fun _ => 0))), (q1, .inl (cI, 12, .inl (fun _ => 0))), (q2, .inl (cI, 12, .inl (fun _ => 0)))]) (kc' := 3) (ks' := 36) rfl rfl rfl ?_
  refine cw_aload_0 hX dX2_init_28 ?_
  refine cw_bipush hX (v := nI 12) (by decide) dX2_init_29 ?_
  refine cw_newaI hX (N := 12) dX2_init_31 (by decide) (by decide) (by decide) (fun q3 => ?_)
  refine cpf_X2 hX (k := 3) (q0 := 0) (by decide) fl_X2_21 dX2_init_33 rfl rfl rfl rfl rfl rfl rfl rfl (Nat.le_of_ble_eq_true rfl) ?_
  refine cw_nf (ws' := [(h0, .inr (2, [.ref q0, .ref q1, .ref q2, .ref q3, .null, .null, .null, .null, .null, .null, .null, .int 0])), (q0, .inl (cI, 12, .inl (fun _ => 0))), (q1, .inl (cI, 12, .inl (fun _ => 0))), (q2, .inl (cI, 12, .inl (fun _ => 0))), (q3, .inl (cI, 12, .inl (fun _ => 0)))]) (kc' := 4) (ks' := 48) rfl rfl rfl ?_
  refine cw_aload_0 hX dX2_init_36 ?_
  refine cw_bipush hX (v := nI 12) (by decide) dX2_init_37 ?_
  refine cw_newaI hX (N := 12) dX2_init_39 (by decide) (by decide) (by decide) (fun q4 => ?_)
  refine cpf_X2 hX (k := 4) (q0 := 0) (by decide) fl_X2_24 dX2_init_41 rfl rfl rfl rfl rfl rfl rfl rfl (Nat.le_of_ble_eq_true rfl) ?_
  refine cw_nf (ws' := [(h0, .inr (2, [.ref q0, .ref q1, .ref q2, .ref q3, .ref q4, .null, .null, .null, .null, .null, .null, .int 0])), (q0, .inl (cI, 12, .inl (fun _ => 0))), (q1, .inl (cI, 12, .inl (fun _ => 0))), (q2, .inl (cI, 12, .inl (fun _ => 0))), (q3, .inl (cI, 12, .inl (fun _ => 0))), (q4, .inl (cI, 12, .inl (fun _ => 0)))]) (kc' := 5) (ks' := 60) rfl rfl rfl ?_
  refine cw_aload_0 hX dX2_init_44 ?_
  refine cw_bipush hX (v := nI 12) (by decide) dX2_init_45 ?_
  refine cw_newaI hX (N := 12) dX2_init_47 (by decide) (by decide) (by decide) (fun q5 => ?_)
  refine cpf_X2 hX (k := 5) (q0 := 0) (by decide) fl_X2_27 dX2_init_49 rfl rfl rfl rfl rfl rfl rfl rfl (Nat.le_of_ble_eq_true rfl) ?_
  refine cw_nf (ws' := [(h0, .inr (2, [.ref q0, .ref q1, .ref q2, .ref q3, .ref q4, .ref q5, .null, .null, .null, .null, .null, .int 0])), (q0, .inl (cI, 12, .inl (fun _ => 0))), (q1, .inl (cI, 12, .inl (fun _ => 0))), (q2, .inl (cI, 12, .inl (fun _ => 0))), (q3, .inl (cI, 12, .inl (fun _ => 0))), (q4, .inl (cI, 12, .inl (fun _ => 0))), (q5, .inl (cI, 12, .inl (fun _ => 0)))]) (kc' := 6) (ks' := 72) rfl rfl rfl ?_
  refine cw_aload_0 hX dX2_init_52 ?_
  refine cw_bipush hX (v := nI 12) (by decide) dX2_init_53 ?_
  refine cw_newaI hX (N := 12) dX2_init_55 (by decide) (by decide) (by decide) (fun q6 => ?_)
  refine cpf_X2 hX (k := 6) (q0 := 0) (by decide) fl_X2_30 dX2_init_57 rfl rfl rfl rfl rfl rfl rfl rfl (Nat.le_of_ble_eq_true rfl) ?_
  refine cw_nf (ws' := [(h0, .inr (2, [.ref q0, .ref q1, .ref q2, .ref q3, .ref q4, .ref q5, .ref q6, .null, .null, .null, .null, .int 0])), (q0, .inl (cI, 12, .inl (fun _ => 0))), (q1, .inl (cI, 12, .inl (fun _ => 0))), (q2, .inl (cI, 12, .inl (fun _ => 0))), (q3, .inl (cI, 12, .inl (fun _ => 0))), (q4, .inl (cI, 12, .inl (fun _ => 0))), (q5, .inl (cI, 12, .inl (fun _ => 0))), (q6, .inl (cI, 12, .inl (fun _ => 0)))]) (kc' := 7) (ks' := 84) rfl rfl rfl ?_
  refine cw_aload_0 hX dX2_init_60 ?_
  refine cw_bipush hX (v := nI 12) (by decide) dX2_init_61 ?_
  refine cw_newaI hX (N := 12) dX2_init_63 (by decide) (by decide) (by decide) (fun q7 => ?_)
  refine cpf_X2 hX (k := 7) (q0 := 0) (by decide) fl_X2_33 dX2_init_65 rfl rfl rfl rfl rfl rfl rfl rfl (Nat.le_of_ble_eq_true rfl) ?_
  refine cw_nf (ws' := [(h0, .inr (2, [.ref q0, .ref q1, .ref q2, .ref q3, .ref q4, .ref q5, .ref q6, .ref q7, .null, .null, .null, .int 0])), (q0, .inl (cI, 12, .inl (fun _ => 0))), (q1, .inl (cI, 12, .inl (fun _ => 0))), (q2, .inl (cI, 12, .inl (fun _ => 0))), (q3, .inl (cI, 12, .inl (fun _ => 0))), (q4, .inl (cI, 12, .inl (fun _ => 0))), (q5, .inl (cI, 12, .inl (fun _ => 0))), (q6, .inl (cI, 12, .inl (fun _ => 0))), (q7, .inl (cI, 12, .inl (fun _ => 0)))]) (kc' := 8) (ks' := 96) rfl rfl rfl ?_
  refine cw_aload_0 hX dX2_init_68 ?_
  refine cw_bipush hX (v := nI 12) (by decide) dX2_init_69 ?_
  refine cw_newaI hX (N := 12) dX2_init_71 (by decide) (by decide) (by decide) (fun q8 => ?_)
  refine cpf_X2 hX (k := 8) (q0 := 0) (by decide) fl_X2_36 dX2_init_73 rfl rfl rfl rfl rfl rfl rfl rfl (Nat.le_of_ble_eq_true rfl) ?_
  refine cw_nf (ws' := [(h0, .inr (2, [.ref q0, .ref q1, .ref q2, .ref q3, .ref q4, .ref q5, .ref q6, .ref q7, .ref q8, .null, .null, .int 0])), (q0, .inl (cI, 12, .inl (fun _ => 0))), (q1, .inl (cI, 12, .inl (fun _ => 0))), (q2, .inl (cI, 12, .inl (fun _ => 0))), (q3, .inl (cI, 12, .inl (fun _ => 0))), (q4, .inl (cI, 12, .inl (fun _ => 0))), (q5, .inl (cI, 12, .inl (fun _ => 0))), (q6, .inl (cI, 12, .inl (fun _ => 0))), (q7, .inl (cI, 12, .inl (fun _ => 0))), (q8, .inl (cI, 12, .inl (fun _ => 0)))]) (kc' := 9) (ks' := 108) rfl rfl rfl ?_
  refine cw_aload_0 hX dX2_init_76 ?_
  refine cw_bipush hX (v := nI 12) (by decide) dX2_init_77 ?_
  refine cw_newaI hX (N := 12) dX2_init_79 (by decide) (by decide) (by decide) (fun q9 => ?_)
  refine cpf_X2 hX (k := 9) (q0 := 0) (by decide) fl_X2_39 dX2_init_81 rfl rfl rfl rfl rfl rfl rfl rfl (Nat.le_of_ble_eq_true rfl) ?_
  refine cw_nf (ws' := [(h0, .inr (2, [.ref q0, .ref q1, .ref q2, .ref q3, .ref q4, .ref q5, .ref q6, .ref q7, .ref q8, .ref q9, .null, .int 0])), (q0, .inl (cI, 12, .inl (fun _ => 0))), (q1, .inl (cI, 12, .inl (fun _ => 0))), (q2, .inl (cI, 12, .inl (fun _ => 0))), (q3, .inl (cI, 12, .inl (fun _ => 0))), (q4, .inl (cI, 12, .inl (fun _ => 0))), (q5, .inl (cI, 12, .inl (fun _ => 0))), (q6, .inl (cI, 12, .inl (fun _ => 0))), (q7, .inl (cI, 12, .inl (fun _ => 0))), (q8, .inl (cI, 12, .inl (fun _ => 0))), (q9, .inl (cI, 12, .inl (fun _ => 0)))]) (kc' := 10) (ks' := 120) rfl rfl rfl ?_
  refine cw_aload_0 hX dX2_init_84 ?_
  refine cw_bipush hX (v := nI 12) (by decide) dX2_init_85 ?_
  refine cw_newaI hX (N := 12) dX2_init_87 (by decide) (by decide) (by decide) (fun q10 => ?_)
  refine cpf_X2 hX (k := 10) (q0 := 0) (by decide) fl_X2_42 dX2_init_89 rfl rfl rfl rfl rfl rfl rfl rfl (Nat.le_of_ble_eq_true rfl) ?_
  refine cw_nf (ws' := [(h0, .inr (2, [.ref q0, .ref q1, .ref q2, .ref q3, .ref q4, .ref q5, .ref q6, .ref q7, .ref q8, .ref q9, .ref q10, .int 0])), (q0, .inl (cI, 12, .inl (fun _ => 0))), (q1, .inl (cI, 12, .inl (fun _ => 0))), (q2, .inl (cI, 12, .inl (fun _ => 0))), (q3, .inl (cI, 12, .inl (fun _ => 0))), (q4, .inl (cI, 12, .inl (fun _ => 0))), (q5, .inl (cI, 12, .inl (fun _ => 0))), (q6, .inl (cI, 12, .inl (fun _ => 0))), (q7, .inl (cI, 12, .inl (fun _ => 0))), (q8, .inl (cI, 12, .inl (fun _ => 0))), (q9, .inl (cI, 12, .inl (fun _ => 0))), (q10, .inl (cI, 12, .inl (fun _ => 0)))]) (kc' := 11) (ks' := 132) rfl rfl rfl ?_
  refine cw_aload_0 hX dX2_init_92 ?_
  refine cw_iconst hX (v := nI 0) (by decide) dX2_init_93 ?_
  refine cpn_X2 hX (k := 11) (q0 := 0) (by decide) fl_X2_45 dX2_init_94 rfl rfl rfl rfl rfl rfl (Nat.le_of_ble_eq_true rfl) ?_
  refine cw_nf (ws' := [(h0, .inr (2, [.ref q0, .ref q1, .ref q2, .ref q3, .ref q4, .ref q5, .ref q6, .ref q7, .ref q8, .ref q9, .ref q10, .int (nI 0)])), (q0, .inl (cI, 12, .inl (fun _ => 0))), (q1, .inl (cI, 12, .inl (fun _ => 0))), (q2, .inl (cI, 12, .inl (fun _ => 0))), (q3, .inl (cI, 12, .inl (fun _ => 0))), (q4, .inl (cI, 12, .inl (fun _ => 0))), (q5, .inl (cI, 12, .inl (fun _ => 0))), (q6, .inl (cI, 12, .inl (fun _ => 0))), (q7, .inl (cI, 12, .inl (fun _ => 0))), (q8, .inl (cI, 12, .inl (fun _ => 0))), (q9, .inl (cI, 12, .inl (fun _ => 0))), (q10, .inl (cI, 12, .inl (fun _ => 0)))]) (kc' := 11) (ks' := 132) rfl rfl rfl ?_
  exact hR _ _ (fun i => ([q0, q1, q2, q3, q4, q5, q6, q7, q8, q9, q10] : List Nat).getD i 0) dX2_init_97
def fin3 (cI cZ : ClassId) (h : Nat) (q : Nat → Nat) : va_W := [(h, .inr (3, [.ref (q 0), .ref (q 1), .ref (q 2), .ref (q 3), .ref (q 4), .int (nI 0)])),
  (q 0, .inl (cI, 6, .inl (fun _ => 0))),
  (q 1, .inl (cI, 7, .inl (fun _ => 0))),
  (q 2, .inl (cI, 180, .inl (fun _ => 0))),
  (q 3, .inl (cI, 180, .inl (fun _ => 0))),
  (q 4, .inl (cI, 180, .inl (fun _ => 0)))]
theorem kc_X3_init : KC yX3_init cX3_init := ⟨in_X3, co_yX3_init, by decide +kernel, rfl, im_yX3_init⟩
set_option maxHeartbeats 4000000 in
set_option maxRecDepth 100000 in
theorem m_X3_init (d : Nat) (D : va_G) (cI cZ : ClassId) : CtM D cI cZ (fun _ => True) (d + 1) 5 553 yX3_init cX3_init 3 [.null, .null, .null, .null, .null, .int 0] (fin3 cI cZ) := by
  refine ctm_of (by decide) rfl (fun X h0 hN (hX : CX X D cI cZ d 5 553 RX3 cX3_init 1 true) hR => ?_)
  refine cw_aload_0 hX dX3_init_0 ?_
  refine cw_objinit hX ml_X3_3 dX3_init_1 (by decide) ?_
  refine cw_aload_0 hX dX3_init_4 ?_
  refine cw_bipush hX (v := nI 6) (by decide) dX3_init_5 ?_
  refine cw_newaI hX (N := 6) dX3_init_7 (by decide) (by decide) (by decide) (fun q0 => ?_)
  refine cpf_X3 hX (k := 0) (q0 := 0) (by decide) fl_X3_11 dX3_init_9 rfl rfl rfl rfl rfl rfl rfl rfl (Nat.le_of_ble_eq_true rfl) ?_
  refine cw_nf (ws' := [(h0, .inr (3, [.ref q0, .null, .null, .null, .null, .int 0])), (q0, .inl (cI, 6, .inl (fun _ => 0)))]) (kc' := 1) (ks' := 6) rfl rfl rfl ?_
  refine cw_aload_0 hX dX3_init_12 ?_
  refine cw_bipush hX (v := nI 7) (by decide) dX3_init_13 ?_
  refine cw_newaI hX (N := 7) dX3_init_15 (by decide) (by decide) (by decide) (fun q1 => ?_)
  refine cpf_X3 hX (k := 1) (q0 := 0) (by decide) fl_X3_15 dX3_init_17 rfl rfl rfl rfl rfl rfl rfl rfl (Nat.le_of_ble_eq_true rfl) ?_
  refine cw_nf (ws' := [(h0, .inr (3, [.ref q0, .ref q1, .null, .null, .null, .int 0])), (q0, .inl (cI, 6, .inl (fun _ => 0))), (q1, .inl (cI, 7, .inl (fun _ => 0)))]) (kc' := 2) (ks' := 13) rfl rfl rfl ?_
  refine cw_aload_0 hX dX3_init_20 ?_
  refine cw_sipush hX (v := nI 180) (by decide) dX3_init_21 ?_
  refine cw_newaI hX (N := 180) dX3_init_24 (by decide) (by decide) (by decide) (fun q2 => ?_)
  refine cpf_X3 hX (k := 2) (q0 := 0) (by decide) fl_X3_20 dX3_init_26 rfl rfl rfl rfl rfl rfl rfl rfl (Nat.le_of_ble_eq_true rfl) ?_
  refine cw_nf (ws' := [(h0, .inr (3, [.ref q0, .ref q1, .ref q2, .null, .null, .int 0])), (q0, .inl (cI, 6, .inl (fun _ => 0))), (q1, .inl (cI, 7, .inl (fun _ => 0))), (q2, .inl (cI, 180, .inl (fun _ => 0)))]) (kc' := 3) (ks' := 193) rfl rfl rfl ?_
  refine cw_aload_0 hX dX3_init_29 ?_
  refine cw_sipush hX (v := nI 180) (by decide) dX3_init_30 ?_
  refine cw_newaI hX (N := 180) dX3_init_33 (by decide) (by decide) (by decide) (fun q3 => ?_)
  refine cpf_X3 hX (k := 3) (q0 := 0) (by decide) fl_X3_23 dX3_init_35 rfl rfl rfl rfl rfl rfl rfl rfl (Nat.le_of_ble_eq_true rfl) ?_
  refine cw_nf (ws' := [(h0, .inr (3, [.ref q0, .ref q1, .ref q2, .ref q3, .null, .int 0])), (q0, .inl (cI, 6, .inl (fun _ => 0))), (q1, .inl (cI, 7, .inl (fun _ => 0))), (q2, .inl (cI, 180, .inl (fun _ => 0))), (q3, .inl (cI, 180, .inl (fun _ => 0)))]) (kc' := 4) (ks' := 373) rfl rfl rfl ?_
  refine cw_aload_0 hX dX3_init_38 ?_
  refine cw_sipush hX (v := nI 180) (by decide) dX3_init_39 ?_
  refine cw_newaI hX (N := 180) dX3_init_42 (by decide) (by decide) (by decide) (fun q4 => ?_)
  refine cpf_X3 hX (k := 4) (q0 := 0) (by decide) fl_X3_26 dX3_init_44 rfl rfl rfl rfl rfl rfl rfl rfl (Nat.le_of_ble_eq_true rfl) ?_
  refine cw_nf (ws' := [(h0, .inr (3, [.ref q0, .ref q1, .ref q2, .ref q3, .ref q4, .int 0])), (q0, .inl (cI, 6, .inl (fun _ => 0))), (q1, .inl (cI, 7, .inl (fun _ => 0))), (q2, .inl (cI, 180, .inl (fun _ => 0))), (q3, .inl (cI, 180, .inl (fun _ => 0))), (q4, .inl (cI, 180, .inl (fun _ => 0)))]) (kc' := 5) (ks' := 553) rfl rfl rfl ?_
  refine cw_aload_0 hX dX3_init_47 ?_
  refine cw_iconst hX (v := nI 0) (by decide) dX3_init_48 ?_
  refine cpn_X3 hX (k := 5) (q0 := 0) (by decide) fl_X3_29 dX3_init_49 rfl rfl rfl rfl rfl rfl (Nat.le_of_ble_eq_true rfl) ?_
  refine cw_nf (ws' := [(h0, .inr (3, [.ref q0, .ref q1, .ref q2, .ref q3, .ref q4, .int (nI 0)])), (q0, .inl (cI, 6, .inl (fun _ => 0))), (q1, .inl (cI, 7, .inl (fun _ => 0))), (q2, .inl (cI, 180, .inl (fun _ => 0))), (q3, .inl (cI, 180, .inl (fun _ => 0))), (q4, .inl (cI, 180, .inl (fun _ => 0)))]) (kc' := 5) (ks' := 553) rfl rfl rfl ?_
  exact hR _ _ (fun i => ([q0, q1, q2, q3, q4] : List Nat).getD i 0) dX3_init_52
def fin4 (cI cZ : ClassId) (h : Nat) (q : Nat → Nat) : va_W := [(h, .inr (4, [.ref (q 0), .ref (q 1), .ref (q 2), .ref (q 3), .int (nI 0)])),
  (q 0, .inl (cI, 30, .inl (fun _ => 0))),
  (q 1, .inl (cI, 30, .inl (fun _ => 0))),
  (q 2, .inl (cI, 30, .inl (fun _ => 0))),
  (q 3, .inl (cI, 30, .inl (fun _ => 0)))]
theorem kc_X4_init : KC yX4_init cX4_init := ⟨in_X4, co_yX4_init, by decide +kernel, rfl, im_yX4_init⟩
set_option maxHeartbeats 4000000 in
set_option maxRecDepth 100000 in
theorem m_X4_init (d : Nat) (D : va_G) (cI cZ : ClassId) : CtM D cI cZ (fun _ => True) (d + 1) 4 120 yX4_init cX4_init 4 [.null, .null, .null, .null, .int 0] (fin4 cI cZ) := by
  refine ctm_of (by decide) rfl (fun X h0 hN (hX : CX X D cI cZ d 4 120 RX4 cX4_init 1 true) hR => ?_)
  refine cw_aload_0 hX dX4_init_0 ?_
  refine cw_objinit hX ml_X4_3 dX4_init_1 (by decide) ?_
  refine cw_aload_0 hX dX4_init_4 ?_
  refine cw_bipush hX (v := nI 30) (by decide) dX4_init_5 ?_
  refine cw_newaI hX (N := 30) dX4_init_7 (by decide) (by decide) (by decide) (fun q0 => ?_)
  refine cpf_X4 hX (k := 0) (q0 := 0) (by decide) fl_X4_11 dX4_init_9 rfl rfl rfl rfl rfl rfl rfl rfl (Nat.le_of_ble_eq_true rfl) ?_
  refine cw_nf (ws' := [(h0, .inr (4, [.ref q0, .null, .null, .null, .int 0])), (q0, .inl (cI, 30, .inl (fun _ => 0)))]) (kc' := 1) (ks' := 30) rfl rfl rfl ?_
  refine cw_aload_0 hX dX4_init_12 ?_
  refine cw_bipush hX (v := nI 30) (by decide) dX4_init_13 ?_
  refine cw_newaI hX (N := 30) dX4_init_15 (by decide) (by decide) (by decide) (fun q1 => ?_)
  refine cpf_X4 hX (k := 1) (q0 := 0) (by decide) fl_X4_15 dX4_init_17 rfl rfl rfl rfl rfl rfl rfl rfl (Nat.le_of_ble_eq_true rfl) ?_
  refine cw_nf (ws' := [(h0, .inr (4, [.ref q0, .ref q1, .null, .null, .int 0])), (q0, .inl (cI, 30, .inl (fun _ => 0))), (q1, .inl (cI, 30, .inl (fun _ => 0)))]) (kc' := 2) (ks' := 60) rfl rfl rfl ?_
  refine cw_aload_0 hX dX4_init_20 ?_
  refine cw_bipush hX (v := nI 30) (by decide) dX4_init_21 ?_
  refine cw_newaI hX (N := 30) dX4_init_23 (by decide) (by decide) (by decide) (fun q2 => ?_)
  refine cpf_X4 hX (k := 2) (q0 := 0) (by decide) fl_X4_18 dX4_init_25 rfl rfl rfl rfl rfl rfl rfl rfl (Nat.le_of_ble_eq_true rfl) ?_
  refine cw_nf (ws' := [(h0, .inr (4, [.ref q0, .ref q1, .ref q2, .null, .int 0])), (q0, .inl (cI, 30, .inl (fun _ => 0))), (q1, .inl (cI, 30, .inl (fun _ => 0))), (q2, .inl (cI, 30, .inl (fun _ => 0)))]) (kc' := 3) (ks' := 90) rfl rfl rfl ?_
  refine cw_aload_0 hX dX4_init_28 ?_
  refine cw_bipush hX (v := nI 30) (by decide) dX4_init_29 ?_
  refine cw_newaI hX (N := 30) dX4_init_31 (by decide) (by decide) (by decide) (fun q3 => ?_)
  refine cpf_X4 hX (k := 3) (q0 := 0) (by decide) fl_X4_21 dX4_init_33 rfl rfl rfl rfl rfl rfl rfl rfl (Nat.le_of_ble_eq_true rfl) ?_
  refine cw_nf (ws' := [(h0, .inr (4, [.ref q0, .ref q1, .ref q2, .ref q3, .int 0])), (q0, .inl (cI, 30, .inl (fun _ => 0))), (q1, .inl (cI, 30, .inl (fun _ => 0))), (q2, .inl (cI, 30, .inl (fun _ => 0))), (q3, .inl (cI, 30, .inl (fun _ => 0)))]) (kc' := 4) (ks' := 120) rfl rfl rfl ?_
  refine cw_aload_0 hX dX4_init_36 ?_
  refine cw_iconst hX (v := nI 0) (by decide) dX4_init_37 ?_
  refine cpn_X4 hX (k := 4) (q0 := 0) (by decide) fl_X4_24 dX4_init_38 rfl rfl rfl rfl rfl rfl (Nat.le_of_ble_eq_true rfl) ?_
  refine cw_nf (ws' := [(h0, .inr (4, [.ref q0, .ref q1, .ref q2, .ref q3, .int (nI 0)])), (q0, .inl (cI, 30, .inl (fun _ => 0))), (q1, .inl (cI, 30, .inl (fun _ => 0))), (q2, .inl (cI, 30, .inl (fun _ => 0))), (q3, .inl (cI, 30, .inl (fun _ => 0)))]) (kc' := 4) (ks' := 120) rfl rfl rfl ?_
  exact hR _ _ (fun i => ([q0, q1, q2, q3] : List Nat).getD i 0) dX4_init_41
def fin5 (cI cZ : ClassId) (h : Nat) (q : Nat → Nat) : va_W := [(h, .inr (5, [.ref (q 0), .ref (q 1), .ref (q 2), .ref (q 3), .int (nI 0)])),
  (q 0, .inl (cI, 100, .inl (fun _ => 0))),
  (q 1, .inl (cI, 100, .inl (fun _ => 0))),
  (q 2, .inl (cI, 100, .inl (fun _ => 0))),
  (q 3, .inl (cI, 100, .inl (fun _ => 0)))]
theorem kc_X5_init : KC yX5_init cX5_init := ⟨in_X5, co_yX5_init, by decide +kernel, rfl, im_yX5_init⟩
set_option maxHeartbeats 4000000 in
set_option maxRecDepth 100000 in
theorem m_X5_init (d : Nat) (D : va_G) (cI cZ : ClassId) : CtM D cI cZ (fun _ => True) (d + 1) 4 400 yX5_init cX5_init 5 [.null, .null, .null, .null, .int 0] (fin5 cI cZ) := by
  refine ctm_of (by decide) rfl (fun X h0 hN (hX : CX X D cI cZ d 4 400 RX5 cX5_init 1 true) hR => ?_)
  refine cw_aload_0 hX dX5_init_0 ?_
  refine cw_objinit hX ml_X5_3 dX5_init_1 (by decide) ?_
  refine cw_aload_0 hX dX5_init_4 ?_
  refine cw_bipush hX (v := nI 100) (by decide) dX5_init_5 ?_
  refine cw_newaI hX (N := 100) dX5_init_7 (by decide) (by decide) (by decide) (fun q0 => ?_)
  refine cpf_X5 hX (k := 0) (q0 := 0) (by decide) fl_X5_11 dX5_init_9 rfl rfl rfl rfl rfl rfl rfl rfl (Nat.le_of_ble_eq_true rfl) ?_
  refine cw_nf (ws' := [(h0, .inr (5, [.ref q0, .null, .null, .null, .int 0])), (q0, .inl (cI, 100, .inl (fun _ => 0)))]) (kc' := 1) (ks' := 100) rfl rfl rfl ?_
  refine cw_aload_0 hX dX5_init_12 ?_
  refine cw_bipush hX (v := nI 100) (by decide) dX5_init_13 ?_
  refine cw_newaI hX (N := 100) dX5_init_15 (by decide) (by decide) (by decide) (fun q1 => ?_)
  refine cpf_X5 hX (k := 1) (q0 := 0) (by decide) fl_X5_15 dX5_init_17 rfl rfl rfl rfl rfl rfl rfl rfl (Nat.le_of_ble_eq_true rfl) ?_
  refine cw_nf (ws' := [(h0, .inr (5, [.ref q0, .ref q1, .null, .null, .int 0])), (q0, .inl (cI, 100, .inl (fun _ => 0))), (q1, .inl (cI, 100, .inl (fun _ => 0)))]) (kc' := 2) (ks' := 200) rfl rfl rfl ?_
  refine cw_aload_0 hX dX5_init_20 ?_
  refine cw_bipush hX (v := nI 100) (by decide) dX5_init_21 ?_
  refine cw_newaI hX (N := 100) dX5_init_23 (by decide) (by decide) (by decide) (fun q2 => ?_)
  refine cpf_X5 hX (k := 2) (q0 := 0) (by decide) fl_X5_18 dX5_init_25 rfl rfl rfl rfl rfl rfl rfl rfl (Nat.le_of_ble_eq_true rfl) ?_
  refine cw_nf (ws' := [(h0, .inr (5, [.ref q0, .ref q1, .ref q2, .null, .int 0])), (q0, .inl (cI, 100, .inl (fun _ => 0))), (q1, .inl (cI, 100, .inl (fun _ => 0))), (q2, .inl (cI, 100, .inl (fun _ => 0)))]) (kc' := 3) (ks' := 300) rfl rfl rfl ?_
  refine cw_aload_0 hX dX5_init_28 ?_
  refine cw_bipush hX (v := nI 100) (by decide) dX5_init_29 ?_
  refine cw_newaI hX (N := 100) dX5_init_31 (by decide) (by decide) (by decide) (fun q3 => ?_)
  refine cpf_X5 hX (k := 3) (q0 := 0) (by decide) fl_X5_21 dX5_init_33 rfl rfl rfl rfl rfl rfl rfl rfl (Nat.le_of_ble_eq_true rfl) ?_
  refine cw_nf (ws' := [(h0, .inr (5, [.ref q0, .ref q1, .ref q2, .ref q3, .int 0])), (q0, .inl (cI, 100, .inl (fun _ => 0))), (q1, .inl (cI, 100, .inl (fun _ => 0))), (q2, .inl (cI, 100, .inl (fun _ => 0))), (q3, .inl (cI, 100, .inl (fun _ => 0)))]) (kc' := 4) (ks' := 400) rfl rfl rfl ?_
  refine cw_aload_0 hX dX5_init_36 ?_
  refine cw_iconst hX (v := nI 0) (by decide) dX5_init_37 ?_
  refine cpn_X5 hX (k := 4) (q0 := 0) (by decide) fl_X5_24 dX5_init_38 rfl rfl rfl rfl rfl rfl (Nat.le_of_ble_eq_true rfl) ?_
  refine cw_nf (ws' := [(h0, .inr (5, [.ref q0, .ref q1, .ref q2, .ref q3, .int (nI 0)])), (q0, .inl (cI, 100, .inl (fun _ => 0))), (q1, .inl (cI, 100, .inl (fun _ => 0))), (q2, .inl (cI, 100, .inl (fun _ => 0))), (q3, .inl (cI, 100, .inl (fun _ => 0)))]) (kc' := 4) (ks' := 400) rfl rfl rfl ?_
  exact hR _ _ (fun i => ([q0, q1, q2, q3] : List Nat).getD i 0) dX5_init_41
def fin6 (cI cZ : ClassId) (h : Nat) (q : Nat → Nat) : va_W := [(h, .inr (6, [.ref (q 0), .ref (q 1), .ref (q 2), .ref (q 3), .ref (q 4), .ref (q 5), .int (nI 0), .int (nI 0)])),
  (q 0, .inl (cI, 6, .inl (fun _ => 0))),
  (q 1, .inl (cI, 6, .inl (fun _ => 0))),
  (q 2, .inl (cI, 6, .inl (fun _ => 0))),
  (q 3, .inl (cZ, 6, .inl (fun _ => 0))),
  (q 4, .inl (cI, 6, .inl (fun _ => 0))),
  (q 5, .inl (cI, 6, .inl (fun _ => 0)))]
theorem kc_X6_init : KC yX6_init cX6_init := ⟨in_X6, co_yX6_init, by decide +kernel, rfl, im_yX6_init⟩
set_option maxHeartbeats 4000000 in
set_option maxRecDepth 100000 in
theorem m_X6_init (d : Nat) (D : va_G) (cI cZ : ClassId) : CtM D cI cZ (fun _ => True) (d + 1) 6 36 yX6_init cX6_init 6 [.null, .null, .null, .null, .null, .null, .int 0, .int 0] (fin6 cI cZ) := by
  refine ctm_of (by decide) rfl (fun X h0 hN (hX : CX X D cI cZ d 6 36 RX6 cX6_init 1 true) hR => ?_)
  refine cw_aload_0 hX dX6_init_0 ?_
  refine cw_objinit hX ml_X6_3 dX6_init_1 (by decide) ?_
  refine cw_aload_0 hX dX6_init_4 ?_
  refine cw_bipush hX (v := nI 6) (by decide) dX6_init_5 ?_
  refine cw_newaI hX (N := 6) dX6_init_7 (by decide) (by decide) (by decide) (fun q0 => ?_)
  refine cpf_X6 hX (k := 0) (q0 := 0) (by decide) fl_X6_11 dX6_init_9 rfl rfl rfl rfl rfl rfl rfl rfl (Nat.le_of_ble_eq_true rfl) ?_
  refine cw_nf (ws' := [(h0, .inr (6, [.ref q0, .null, .null, .null, .null, .null, .int 0, .int 0])), (q0, .inl (cI, 6, .inl (fun _ => 0)))]) (kc' := 1) (ks' := 6) rfl rfl rfl ?_
  refine cw_aload_0 hX dX6_init_12 ?_
  refine cw_bipush hX (v := nI 6) (by decide) dX6_init_13 ?_
  refine cw_newaI hX (N := 6) dX6_init_15 (by decide) (by decide) (by decide) (fun q1 => ?_)
  refine cpf_X6 hX (k := 1) (q0 := 0) (by decide) fl_X6_15 dX6_init_17 rfl rfl rfl rfl rfl rfl rfl rfl (Nat.le_of_ble_eq_true rfl) ?_
  refine cw_nf (ws' := [(h0, .inr (6, [.ref q0, .ref q1, .null, .null, .null, .null, .int 0, .int 0])), (q0, .inl (cI, 6, .inl (fun _ => 0))), (q1, .inl (cI, 6, .inl (fun _ => 0)))]) (kc' := 2) (ks' := 12) rfl rfl rfl ?_
  refine cw_aload_0 hX dX6_init_20 ?_
  refine cw_bipush hX (v := nI 6) (by decide) dX6_init_21 ?_
  refine cw_newaI hX (N := 6) dX6_init_23 (by decide) (by decide) (by decide) (fun q2 => ?_)
  refine cpf_X6 hX (k := 2) (q0 := 0) (by decide) fl_X6_18 dX6_init_25 rfl rfl rfl rfl rfl rfl rfl rfl (Nat.le_of_ble_eq_true rfl) ?_
  refine cw_nf (ws' := [(h0, .inr (6, [.ref q0, .ref q1, .ref q2, .null, .null, .null, .int 0, .int 0])), (q0, .inl (cI, 6, .inl (fun _ => 0))), (q1, .inl (cI, 6, .inl (fun _ => 0))), (q2, .inl (cI, 6, .inl (fun _ => 0)))]) (kc' := 3) (ks' := 18) rfl rfl rfl ?_
  refine cw_aload_0 hX dX6_init_28 ?_
  refine cw_bipush hX (v := nI 6) (by decide) dX6_init_29 ?_
  refine cw_newaZ hX (N := 6) dX6_init_31 (by decide) (by decide) (by decide) (fun q3 => ?_)
  refine cpf_X6 hX (k := 3) (q0 := 0) (by decide) fl_X6_21 dX6_init_33 rfl rfl rfl rfl rfl rfl rfl rfl (Nat.le_of_ble_eq_true rfl) ?_
  refine cw_nf (ws' := [(h0, .inr (6, [.ref q0, .ref q1, .ref q2, .ref q3, .null, .null, .int 0, .int 0])), (q0, .inl (cI, 6, .inl (fun _ => 0))), (q1, .inl (cI, 6, .inl (fun _ => 0))), (q2, .inl (cI, 6, .inl (fun _ => 0))), (q3, .inl (cZ, 6, .inl (fun _ => 0)))]) (kc' := 4) (ks' := 24) rfl rfl rfl ?_
  refine cw_aload_0 hX dX6_init_36 ?_
  refine cw_bipush hX (v := nI 6) (by decide) dX6_init_37 ?_
  refine cw_newaI hX (N := 6) dX6_init_39 (by decide) (by decide) (by decide) (fun q4 => ?_)
  refine cpf_X6 hX (k := 4) (q0 := 0) (by decide) fl_X6_25 dX6_init_41 rfl rfl rfl rfl rfl rfl rfl rfl (Nat.le_of_ble_eq_true rfl) ?_
  refine cw_nf (ws' := [(h0, .inr (6, [.ref q0, .ref q1, .ref q2, .ref q3, .ref q4, .null, .int 0, .int 0])), (q0, .inl (cI, 6, .inl (fun _ => 0))), (q1, .inl (cI, 6, .inl (fun _ => 0))), (q2, .inl (cI, 6, .inl (fun _ => 0))), (q3, .inl (cZ, 6, .inl (fun _ => 0))), (q4, .inl (cI, 6, .inl (fun _ => 0)))]) (kc' := 5) (ks' := 30) rfl rfl rfl ?_
  refine cw_aload_0 hX dX6_init_44 ?_
  refine cw_bipush hX (v := nI 6) (by decide) dX6_init_45 ?_
  refine cw_newaI hX (N := 6) dX6_init_47 (by decide) (by decide) (by decide) (fun q5 => ?_)
  refine cpf_X6 hX (k := 5) (q0 := 0) (by decide) fl_X6_28 dX6_init_49 rfl rfl rfl rfl rfl rfl rfl rfl (Nat.le_of_ble_eq_true rfl) ?_
  refine cw_nf (ws' := [(h0, .inr (6, [.ref q0, .ref q1, .ref q2, .ref q3, .ref q4, .ref q5, .int 0, .int 0])), (q0, .inl (cI, 6, .inl (fun _ => 0))), (q1, .inl (cI, 6, .inl (fun _ => 0))), (q2, .inl (cI, 6, .inl (fun _ => 0))), (q3, .inl (cZ, 6, .inl (fun _ => 0))), (q4, .inl (cI, 6, .inl (fun _ => 0))), (q5, .inl (cI, 6, .inl (fun _ => 0)))]) (kc' := 6) (ks' := 36) rfl rfl rfl ?_
  refine cw_aload_0 hX dX6_init_52 ?_
  refine cw_iconst hX (v := nI 0) (by decide) dX6_init_53 ?_
  refine cpn_X6 hX (k := 6) (q0 := 0) (by decide) fl_X6_31 dX6_init_54 rfl rfl rfl rfl rfl rfl (Nat.le_of_ble_eq_true rfl) ?_
  refine cw_nf (ws' := [(h0, .inr (6, [.ref q0, .ref q1, .ref q2, .ref q3, .ref q4, .ref q5, .int (nI 0), .int 0])), (q0, .inl (cI, 6, .inl (fun _ => 0))), (q1, .inl (cI, 6, .inl (fun _ => 0))), (q2, .inl (cI, 6, .inl (fun _ => 0))), (q3, .inl (cZ, 6, .inl (fun _ => 0))), (q4, .inl (cI, 6, .inl (fun _ => 0))), (q5, .inl (cI, 6, .inl (fun _ => 0)))]) (kc' := 6) (ks' := 36) rfl rfl rfl ?_
  refine cw_aload_0 hX dX6_init_57 ?_
  refine cw_iconst hX (v := nI 0) (by decide) dX6_init_58 ?_
  refine cpn_X6 hX (k := 7) (q0 := 0) (by decide) fl_X6_35 dX6_init_59 rfl rfl rfl rfl rfl rfl (Nat.le_of_ble_eq_true rfl) ?_
  refine cw_nf (ws' := [(h0, .inr (6, [.ref q0, .ref q1, .ref q2, .ref q3, .ref q4, .ref q5, .int (nI 0), .int (nI 0)])), (q0, .inl (cI, 6, .inl (fun _ => 0))), (q1, .inl (cI, 6, .inl (fun _ => 0))), (q2, .inl (cI, 6, .inl (fun _ => 0))), (q3, .inl (cZ, 6, .inl (fun _ => 0))), (q4, .inl (cI, 6, .inl (fun _ => 0))), (q5, .inl (cI, 6, .inl (fun _ => 0)))]) (kc' := 6) (ks' := 36) rfl rfl rfl ?_
  exact hR _ _ (fun i => ([q0, q1, q2, q3, q4, q5] : List Nat).getD i 0) dX6_init_62
def fin8 (cI cZ : ClassId) (h : Nat) (q : Nat → Nat) : va_W := [(h, .inr (8, [.int (nI 0), .int 0, .ref (q 0), .int 0, .int 0, .ref (q 1), .ref (q 2), .ref (q 3), .ref (q 4), .ref (q 5), .int 0, .int 0, .ref (q 6), .int 0, .ref (q 7), .int 0, .ref (q 8), .int 0, .ref (q 9), .int (nI 1), .ref (q 10), .int 0, .ref (q 11), .ref (q 12), .ref (q 13), .int 0, .long 0])),
  (q 0, .inl (cI, 60, .inl (fun _ => 0))),
  (q 1, .inl (cI, 6, .inl (fun _ => 0))),
  (q 2, .inl (cI, 7, .inl (fun _ => 0))),
  (q 3, .inl (cI, 240, .inl (fun _ => 0))),
  (q 4, .inl (cI, 240, .inl (fun _ => 0))),
  (q 5, .inl (cI, 240, .inl (fun _ => 0))),
  (q 6, .inl (cI, 132, .inl (fun _ => 0))),
  (q 7, .inl (cI, 120, .inl (fun _ => 0))),
  (q 8, .inl (cI, 20, .inl (fun _ => 0))),
  (q 9, .inl (cI, 400, .inl (fun _ => 0))),
  (q 10, .inl (cZ, 4, .inl (fun _ => 0))),
  (q 11, .inl (cI, 6, .inl (fun _ => 0))),
  (q 12, .inl (cI, 6, .inl (fun _ => 0))),
  (q 13, .inl (cI, 6, .inl (fun _ => 0)))]
theorem kc_X8_init : KC yX8_init cX8_init := ⟨in_X8, co_yX8_init, by decide +kernel, rfl, im_yX8_init⟩
set_option maxHeartbeats 4000000 in
set_option maxRecDepth 100000 in
theorem m_X8_init (d : Nat) (D : va_G) (cI cZ : ClassId) : CtM D cI cZ (fun _ => True) (d + 1) 14 1487 yX8_init cX8_init 8 [.int 0, .int 0, .null, .int 0, .int 0, .null, .null, .null, .null, .null, .int 0, .int 0, .null, .int 0, .null, .int 0, .null, .int 0, .null, .int 0, .null, .int 0, .null, .null, .null, .int 0, .long 0] (fin8 cI cZ) := by
  refine ctm_of (by decide) rfl (fun X h0 hN (hX : CX X D cI cZ d 14 1487 RX8 cX8_init 1 true) hR => ?_)
  refine cw_aload_0 hX dX8_init_0 ?_
  refine cw_objinit hX ml_X8_1 dX8_init_1 (by decide) ?_
  refine cw_aload_0 hX dX8_init_4 ?_
  refine cw_bipush hX (v := nI 60) (by decide) dX8_init_5 ?_
  refine cw_newaI hX (N := 60) dX8_init_7 (by decide) (by decide) (by decide) (fun q0 => ?_)
  refine cpf_X8 hX (k := 2) (q0 := 0) (by decide) fl_X8_7 dX8_init_9 rfl rfl rfl rfl rfl rfl rfl rfl (Nat.le_of_ble_eq_true rfl) ?_
  refine cw_nf (ws' := [(h0, .inr (8, [.int 0, .int 0, .ref q0, .int 0, .int 0, .null, .null, .null, .null, .null, .int 0, .int 0, .null, .int 0, .null, .int 0, .null, .int 0, .null, .int 0, .null, .int 0, .null, .null, .null, .int 0, .long 0])), (q0, .inl (cI, 60, .inl (fun _ => 0)))]) (kc' := 1) (ks' := 60) rfl rfl rfl ?_
  refine cw_aload_0 hX dX8_init_12 ?_
  refine cw_bipush hX (v := nI 6) (by decide) dX8_init_13 ?_
  refine cw_newaI hX (N := 6) dX8_init_15 (by decide) (by decide) (by decide) (fun q1 => ?_)
  refine cpf_X8 hX (k := 5) (q0 := 0) (by decide) fl_X8_13 dX8_init_17 rfl rfl rfl rfl rfl rfl rfl rfl (Nat.le_of_ble_eq_true rfl) ?_
  refine cw_nf (ws' := [(h0, .inr (8, [.int 0, .int 0, .ref q0, .int 0, .int 0, .ref q1, .null, .null, .null, .null, .int 0, .int 0, .null, .int 0, .null, .int 0, .null, .int 0, .null, .int 0, .null, .int 0, .null, .null, .null, .int 0, .long 0])), (q0, .inl (cI, 60, .inl (fun _ => 0))), (q1, .inl (cI, 6, .inl (fun _ => 0)))]) (kc' := 2) (ks' := 66) rfl rfl rfl ?_
  refine cw_aload_0 hX dX8_init_20 ?_
  refine cw_bipush hX (v := nI 7) (by decide) dX8_init_21 ?_
  refine cw_newaI hX (N := 7) dX8_init_23 (by decide) (by decide) (by decide) (fun q2 => ?_)
  refine cpf_X8 hX (k := 6) (q0 := 0) (by decide) fl_X8_16 dX8_init_25 rfl rfl rfl rfl rfl rfl rfl rfl (Nat.le_of_ble_eq_true rfl) ?_
  refine cw_nf (ws' := [(h0, .inr (8, [.int 0, .int 0, .ref q0, .int 0, .int 0, .ref q1, .ref q2, .null, .null, .null, .int 0, .int 0, .null, .int 0, .null, .int 0, .null, .int 0, .null, .int 0, .null, .int 0, .null, .null, .null, .int 0, .long 0])), (q0, .inl (cI, 60, .inl (fun _ => 0))), (q1, .inl (cI, 6, .inl (fun _ => 0))), (q2, .inl (cI, 7, .inl (fun _ => 0)))]) (kc' := 3) (ks' := 73) rfl rfl rfl ?_
  refine cw_aload_0 hX dX8_init_28 ?_
  refine cw_sipush hX (v := nI 240) (by decide) dX8_init_29 ?_
  refine cw_newaI hX (N := 240) dX8_init_32 (by decide) (by decide) (by decide) (fun q3 => ?_)
  refine cpf_X8 hX (k := 7) (q0 := 0) (by decide) fl_X8_19 dX8_init_34 rfl rfl rfl rfl rfl rfl rfl rfl (Nat.le_of_ble_eq_true rfl) ?_
  refine cw_nf (ws' := [(h0, .inr (8, [.int 0, .int 0, .ref q0, .int 0, .int 0, .ref q1, .ref q2, .ref q3, .null, .null, .int 0, .int 0, .null, .int 0, .null, .int 0, .null, .int 0, .null, .int 0, .null, .int 0, .null, .null, .null, .int 0, .long 0])), (q0, .inl (cI, 60, .inl (fun _ => 0))), (q1, .inl (cI, 6, .inl (fun _ => 0))), (q2, .inl (cI, 7, .inl (fun _ => 0))), (q3, .inl (cI, 240, .inl (fun _ => 0)))]) (kc' := 4) (ks' := 313) rfl rfl rfl ?_
  refine cw_aload_0 hX dX8_init_37 ?_
  refine cw_sipush hX (v := nI 240) (by decide) dX8_init_38 ?_
  refine cw_newaI hX (N := 240) dX8_init_41 (by decide) (by decide) (by decide) (fun q4 => ?_)
  refine cpf_X8 hX (k := 8) (q0 := 0) (by decide) fl_X8_22 dX8_init_43 rfl rfl rfl rfl rfl rfl rfl rfl (Nat.le_of_ble_eq_true rfl) ?_
  refine cw_nf (ws' := [(h0, .inr (8, [.int 0, .int 0, .ref q0, .int 0, .int 0, .ref q1, .ref q2, .ref q3, .ref q4, .null, .int 0, .int 0, .null, .int 0, .null, .int 0, .null, .int 0, .null, .int 0, .null, .int 0, .null, .null, .null, .int 0, .long 0])), (q0, .inl (cI, 60, .inl (fun _ => 0))), (q1, .inl (cI, 6, .inl (fun _ => 0))), (q2, .inl (cI, 7, .inl (fun _ => 0))), (q3, .inl (cI, 240, .inl (fun _ => 0))), (q4, .inl (cI, 240, .inl (fun _ => 0)))]) (kc' := 5) (ks' := 553) rfl rfl rfl ?_
  refine cw_aload_0 hX dX8_init_46 ?_
  refine cw_sipush hX (v := nI 240) (by decide) dX8_init_47 ?_
  refine cw_newaI hX (N := 240) dX8_init_50 (by decide) (by decide) (by decide) (fun q5 => ?_)
  refine cpf_X8 hX (k := 9) (q0 := 0) (by decide) fl_X8_25 dX8_init_52 rfl rfl rfl rfl rfl rfl rfl rfl (Nat.le_of_ble_eq_true rfl) ?_
  refine cw_nf (ws' := [(h0, .inr (8, [.int 0, .int 0, .ref q0, .int 0, .int 0, .ref q1, .ref q2, .ref q3, .ref q4, .ref q5, .int 0, .int 0, .null, .int 0, .null, .int 0, .null, .int 0, .null, .int 0, .null, .int 0, .null, .null, .null, .int 0, .long 0])), (q0, .inl (cI, 60, .inl (fun _ => 0))), (q1, .inl (cI, 6, .inl (fun _ => 0))), (q2, .inl (cI, 7, .inl (fun _ => 0))), (q3, .inl (cI, 240, .inl (fun _ => 0))), (q4, .inl (cI, 240, .inl (fun _ => 0))), (q5, .inl (cI, 240, .inl (fun _ => 0)))]) (kc' := 6) (ks' := 793) rfl rfl rfl ?_
  refine cw_aload_0 hX dX8_init_55 ?_
  refine cw_sipush hX (v := nI 132) (by decide) dX8_init_56 ?_
  refine cw_newaI hX (N := 132) dX8_init_59 (by decide) (by decide) (by decide) (fun q6 => ?_)
  refine cpf_X8 hX (k := 12) (q0 := 0) (by decide) fl_X8_28 dX8_init_61 rfl rfl rfl rfl rfl rfl rfl rfl (Nat.le_of_ble_eq_true rfl) ?_
  refine cw_nf (ws' := [(h0, .inr (8, [.int 0, .int 0, .ref q0, .int 0, .int 0, .ref q1, .ref q2, .ref q3, .ref q4, .ref q5, .int 0, .int 0, .ref q6, .int 0, .null, .int 0, .null, .int 0, .null, .int 0, .null, .int 0, .null, .null, .null, .int 0, .long 0])), (q0, .inl (cI, 60, .inl (fun _ => 0))), (q1, .inl (cI, 6, .inl (fun _ => 0))), (q2, .inl (cI, 7, .inl (fun _ => 0))), (q3, .inl (cI, 240, .inl (fun _ => 0))), (q4, .inl (cI, 240, .inl (fun _ => 0))), (q5, .inl (cI, 240, .inl (fun _ => 0))), (q6, .inl (cI, 132, .inl (fun _ => 0)))]) (kc' := 7) (ks' := 925) rfl rfl rfl ?_
  refine cw_aload_0 hX dX8_init_64 ?_
  refine cw_bipush hX (v := nI 120) (by decide) dX8_init_65 ?_
  refine cw_newaI hX (N := 120) dX8_init_67 (by decide) (by decide) (by decide) (fun q7 => ?_)
  refine cpf_X8 hX (k := 14) (q0 := 0) (by decide) fl_X8_31 dX8_init_69 rfl rfl rfl rfl rfl rfl rfl rfl (Nat.le_of_ble_eq_true rfl) ?_
  refine cw_nf (ws' := [(h0, .inr (8, [.int 0, .int 0, .ref q0, .int 0, .int 0, .ref q1, .ref q2, .ref q3, .ref q4, .ref q5, .int 0, .int 0, .ref q6, .int 0, .ref q7, .int 0, .null, .int 0, .null, .int 0, .null, .int 0, .null, .null, .null, .int 0, .long 0])), (q0, .inl (cI, 60, .inl (fun _ => 0))), (q1, .inl (cI, 6, .inl (fun _ => 0))), (q2, .inl (cI, 7, .inl (fun _ => 0))), (q3, .inl (cI, 240, .inl (fun _ => 0))), (q4, .inl (cI, 240, .inl (fun _ => 0))), (q5, .inl (cI, 240, .inl (fun _ => 0))), (q6, .inl (cI, 132, .inl (fun _ => 0))), (q7, .inl (cI, 120, .inl (fun _ => 0)))]) (kc' := 8) (ks' := 1045) rfl rfl rfl ?_
  refine cw_aload_0 hX dX8_init_72 ?_
  refine cw_bipush hX (v := nI 20) (by decide) dX8_init_73 ?_
  refine cw_newaI hX (N := 20) dX8_init_75 (by decide) (by decide) (by decide) (fun q8 => ?_)
  refine cpf_X8 hX (k := 16) (q0 := 0) (by decide) fl_X8_34 dX8_init_77 rfl rfl rfl rfl rfl rfl rfl rfl (Nat.le_of_ble_eq_true rfl) ?_
  refine cw_nf (ws' := [(h0, .inr (8, [.int 0, .int 0, .ref q0, .int 0, .int 0, .ref q1, .ref q2, .ref q3, .ref q4, .ref q5, .int 0, .int 0, .ref q6, .int 0, .ref q7, .int 0, .ref q8, .int 0, .null, .int 0, .null, .int 0, .null, .null, .null, .int 0, .long 0])), (q0, .inl (cI, 60, .inl (fun _ => 0))), (q1, .inl (cI, 6, .inl (fun _ => 0))), (q2, .inl (cI, 7, .inl (fun _ => 0))), (q3, .inl (cI, 240, .inl (fun _ => 0))), (q4, .inl (cI, 240, .inl (fun _ => 0))), (q5, .inl (cI, 240, .inl (fun _ => 0))), (q6, .inl (cI, 132, .inl (fun _ => 0))), (q7, .inl (cI, 120, .inl (fun _ => 0))), (q8, .inl (cI, 20, .inl (fun _ => 0)))]) (kc' := 9) (ks' := 1065) rfl rfl rfl ?_
  refine cw_aload_0 hX dX8_init_80 ?_
  refine cw_sipush hX (v := nI 400) (by decide) dX8_init_81 ?_
  refine cw_newaI hX (N := 400) dX8_init_84 (by decide) (by decide) (by decide) (fun q9 => ?_)
  refine cpf_X8 hX (k := 18) (q0 := 0) (by decide) fl_X8_37 dX8_init_86 rfl rfl rfl rfl rfl rfl rfl rfl (Nat.le_of_ble_eq_true rfl) ?_
  refine cw_nf (ws' := [(h0, .inr (8, [.int 0, .int 0, .ref q0, .int 0, .int 0, .ref q1, .ref q2, .ref q3, .ref q4, .ref q5, .int 0, .int 0, .ref q6, .int 0, .ref q7, .int 0, .ref q8, .int 0, .ref q9, .int 0, .null, .int 0, .null, .null, .null, .int 0, .long 0])), (q0, .inl (cI, 60, .inl (fun _ => 0))), (q1, .inl (cI, 6, .inl (fun _ => 0))), (q2, .inl (cI, 7, .inl (fun _ => 0))), (q3, .inl (cI, 240, .inl (fun _ => 0))), (q4, .inl (cI, 240, .inl (fun _ => 0))), (q5, .inl (cI, 240, .inl (fun _ => 0))), (q6, .inl (cI, 132, .inl (fun _ => 0))), (q7, .inl (cI, 120, .inl (fun _ => 0))), (q8, .inl (cI, 20, .inl (fun _ => 0))), (q9, .inl (cI, 400, .inl (fun _ => 0)))]) (kc' := 10) (ks' := 1465) rfl rfl rfl ?_
  refine cw_aload_0 hX dX8_init_89 ?_
  refine cw_iconst hX (v := nI 1) (by decide) dX8_init_90 ?_
  refine cpn_X8 hX (k := 19) (q0 := 0) (by decide) fl_X8_40 dX8_init_91 rfl rfl rfl rfl rfl rfl (Nat.le_of_ble_eq_true rfl) ?_
  refine cw_nf (ws' := [(h0, .inr (8, [.int 0, .int 0, .ref q0, .int 0, .int 0, .ref q1, .ref q2, .ref q3, .ref q4, .ref q5, .int 0, .int 0, .ref q6, .int 0, .ref q7, .int 0, .ref q8, .int 0, .ref q9, .int (nI 1), .null, .int 0, .null, .null, .null, .int 0, .long 0])), (q0, .inl (cI, 60, .inl (fun _ => 0))), (q1, .inl (cI, 6, .inl (fun _ => 0))), (q2, .inl (cI, 7, .inl (fun _ => 0))), (q3, .inl (cI, 240, .inl (fun _ => 0))), (q4, .inl (cI, 240, .inl (fun _ => 0))), (q5, .inl (cI, 240, .inl (fun _ => 0))), (q6, .inl (cI, 132, .inl (fun _ => 0))), (q7, .inl (cI, 120, .inl (fun _ => 0))), (q8, .inl (cI, 20, .inl (fun _ => 0))), (q9, .inl (cI, 400, .inl (fun _ => 0)))]) (kc' := 10) (ks' := 1465) rfl rfl rfl ?_
  refine cw_aload_0 hX dX8_init_94 ?_
  refine cw_iconst hX (v := nI 4) (by decide) dX8_init_95 ?_
  refine cw_newaZ hX (N := 4) dX8_init_96 (by decide) (by decide) (by decide) (fun q10 => ?_)
  refine cpf_X8 hX (k := 20) (q0 := 0) (by decide) fl_X8_44 dX8_init_98 rfl rfl rfl rfl rfl rfl rfl rfl (Nat.le_of_ble_eq_true rfl) ?_
  refine cw_nf (ws' := [(h0, .inr (8, [.int 0, .int 0, .ref q0, .int 0, .int 0, .ref q1, .ref q2, .ref q3, .ref q4, .ref q5, .int 0, .int 0, .ref q6, .int 0, .ref q7, .int 0, .ref q8, .int 0, .ref q9, .int (nI 1), .ref q10, .int 0, .null, .null, .null, .int 0, .long 0])), (q0, .inl (cI, 60, .inl (fun _ => 0))), (q1, .inl (cI, 6, .inl (fun _ => 0))), (q2, .inl (cI, 7, .inl (fun _ => 0))), (q3, .inl (cI, 240, .inl (fun _ => 0))), (q4, .inl (cI, 240, .inl (fun _ => 0))), (q5, .inl (cI, 240, .inl (fun _ => 0))), (q6, .inl (cI, 132, .inl (fun _ => 0))), (q7, .inl (cI, 120, .inl (fun _ => 0))), (q8, .inl (cI, 20, .inl (fun _ => 0))), (q9, .inl (cI, 400, .inl (fun _ => 0))), (q10, .inl (cZ, 4, .inl (fun _ => 0)))]) (kc' := 11) (ks' := 1469) rfl rfl rfl ?_
  refine cw_aload_0 hX dX8_init_101 ?_
  refine cw_bipush hX (v := nI 6) (by decide) dX8_init_102 ?_
  refine cw_newaI hX (N := 6) dX8_init_104 (by decide) (by decide) (by decide) (fun q11 => ?_)
  refine cpf_X8 hX (k := 22) (q0 := 0) (by decide) fl_X8_48 dX8_init_106 rfl rfl rfl rfl rfl rfl rfl rfl (Nat.le_of_ble_eq_true rfl) ?_
  refine cw_nf (ws' := [(h0, .inr (8, [.int 0, .int 0, .ref q0, .int 0, .int 0, .ref q1, .ref q2, .ref q3, .ref q4, .ref q5, .int 0, .int 0, .ref q6, .int 0, .ref q7, .int 0, .ref q8, .int 0, .ref q9, .int (nI 1), .ref q10, .int 0, .ref q11, .null, .null, .int 0, .long 0])), (q0, .inl (cI, 60, .inl (fun _ => 0))), (q1, .inl (cI, 6, .inl (fun _ => 0))), (q2, .inl (cI, 7, .inl (fun _ => 0))), (q3, .inl (cI, 240, .inl (fun _ => 0))), (q4, .inl (cI, 240, .inl (fun _ => 0))), (q5, .inl (cI, 240, .inl (fun _ => 0))), (q6, .inl (cI, 132, .inl (fun _ => 0))), (q7, .inl (cI, 120, .inl (fun _ => 0))), (q8, .inl (cI, 20, .inl (fun _ => 0))), (q9, .inl (cI, 400, .inl (fun _ => 0))), (q10, .inl (cZ, 4, .inl (fun _ => 0))), (q11, .inl (cI, 6, .inl (fun _ => 0)))]) (kc' := 12) (ks' := 1475) rfl rfl rfl ?_
  refine cw_aload_0 hX dX8_init_109 ?_
  refine cw_bipush hX (v := nI 6) (by decide) dX8_init_110 ?_
  refine cw_newaI hX (N := 6) dX8_init_112 (by decide) (by decide) (by decide) (fun q12 => ?_)
  refine cpf_X8 hX (k := 23) (q0 := 0) (by decide) fl_X8_51 dX8_init_114 rfl rfl rfl rfl rfl rfl rfl rfl (Nat.le_of_ble_eq_true rfl) ?_
  refine cw_nf (ws' := [(h0, .inr (8, [.int 0, .int 0, .ref q0, .int 0, .int 0, .ref q1, .ref q2, .ref q3, .ref q4, .ref q5, .int 0, .int 0, .ref q6, .int 0, .ref q7, .int 0, .ref q8, .int 0, .ref q9, .int (nI 1), .ref q10, .int 0, .ref q11, .ref q12, .null, .int 0, .long 0])), (q0, .inl (cI, 60, .inl (fun _ => 0))), (q1, .inl (cI, 6, .inl (fun _ => 0))), (q2, .inl (cI, 7, .inl (fun _ => 0))), (q3, .inl (cI, 240, .inl (fun _ => 0))), (q4, .inl (cI, 240, .inl (fun _ => 0))), (q5, .inl (cI, 240, .inl (fun _ => 0))), (q6, .inl (cI, 132, .inl (fun _ => 0))), (q7, .inl (cI, 120, .inl (fun _ => 0))), (q8, .inl (cI, 20, .inl (fun _ => 0))), (q9, .inl (cI, 400, .inl (fun _ => 0))), (q10, .inl (cZ, 4, .inl (fun _ => 0))), (q11, .inl (cI, 6, .inl (fun _ => 0))), (q12, .inl (cI, 6, .inl (fun _ => 0)))]) (kc' := 13) (ks' := 1481) rfl rfl rfl ?_
  refine cw_aload_0 hX dX8_init_117 ?_
  refine cw_bipush hX (v := nI 6) (by decide) dX8_init_118 ?_
  refine cw_newaI hX (N := 6) dX8_init_120 (by decide) (by decide) (by decide) (fun q13 => ?_)
  refine cpf_X8 hX (k := 24) (q0 := 0) (by decide) fl_X8_54 dX8_init_122 rfl rfl rfl rfl rfl rfl rfl rfl (Nat.le_of_ble_eq_true rfl) ?_
  refine cw_nf (ws' := [(h0, .inr (8, [.int 0, .int 0, .ref q0, .int 0, .int 0, .ref q1, .ref q2, .ref q3, .ref q4, .ref q5, .int 0, .int 0, .ref q6, .int 0, .ref q7, .int 0, .ref q8, .int 0, .ref q9, .int (nI 1), .ref q10, .int 0, .ref q11, .ref q12, .ref q13, .int 0, .long 0])), (q0, .inl (cI, 60, .inl (fun _ => 0))), (q1, .inl (cI, 6, .inl (fun _ => 0))), (q2, .inl (cI, 7, .inl (fun _ => 0))), (q3, .inl (cI, 240, .inl (fun _ => 0))), (q4, .inl (cI, 240, .inl (fun _ => 0))), (q5, .inl (cI, 240, .inl (fun _ => 0))), (q6, .inl (cI, 132, .inl (fun _ => 0))), (q7, .inl (cI, 120, .inl (fun _ => 0))), (q8, .inl (cI, 20, .inl (fun _ => 0))), (q9, .inl (cI, 400, .inl (fun _ => 0))), (q10, .inl (cZ, 4, .inl (fun _ => 0))), (q11, .inl (cI, 6, .inl (fun _ => 0))), (q12, .inl (cI, 6, .inl (fun _ => 0))), (q13, .inl (cI, 6, .inl (fun _ => 0)))]) (kc' := 14) (ks' := 1487) rfl rfl rfl ?_
  refine cw_aload_0 hX dX8_init_125 ?_
  refine cw_iconst hX (v := nI 0) (by decide) dX8_init_126 ?_
  refine cpn_X8 hX (k := 0) (q0 := 0) (by decide) fl_X8_57 dX8_init_127 rfl rfl rfl rfl rfl rfl (Nat.le_of_ble_eq_true rfl) ?_
  refine cw_nf (ws' := [(h0, .inr (8, [.int (nI 0), .int 0, .ref q0, .int 0, .int 0, .ref q1, .ref q2, .ref q3, .ref q4, .ref q5, .int 0, .int 0, .ref q6, .int 0, .ref q7, .int 0, .ref q8, .int 0, .ref q9, .int (nI 1), .ref q10, .int 0, .ref q11, .ref q12, .ref q13, .int 0, .long 0])), (q0, .inl (cI, 60, .inl (fun _ => 0))), (q1, .inl (cI, 6, .inl (fun _ => 0))), (q2, .inl (cI, 7, .inl (fun _ => 0))), (q3, .inl (cI, 240, .inl (fun _ => 0))), (q4, .inl (cI, 240, .inl (fun _ => 0))), (q5, .inl (cI, 240, .inl (fun _ => 0))), (q6, .inl (cI, 132, .inl (fun _ => 0))), (q7, .inl (cI, 120, .inl (fun _ => 0))), (q8, .inl (cI, 20, .inl (fun _ => 0))), (q9, .inl (cI, 400, .inl (fun _ => 0))), (q10, .inl (cZ, 4, .inl (fun _ => 0))), (q11, .inl (cI, 6, .inl (fun _ => 0))), (q12, .inl (cI, 6, .inl (fun _ => 0))), (q13, .inl (cI, 6, .inl (fun _ => 0)))]) (kc' := 14) (ks' := 1487) rfl rfl rfl ?_
  exact hR _ _ (fun i => ([q0, q1, q2, q3, q4, q5, q6, q7, q8, q9, q10, q11, q12, q13] : List Nat).getD i 0) dX8_init_130
theorem df_X0 : ∀ j, j < 9 → defaultValue (tyX0 j) = vp_V [.null, .int 0, .null, .null, .null, .int 0, .int 0, .int 0, .int 0] j := by
  intro j hj
  rcases (show j = 0 ∨ j = 1 ∨ j = 2 ∨ j = 3 ∨ j = 4 ∨ j = 5 ∨ j = 6 ∨ j = 7 ∨ j = 8 by omega) with rfl | rfl | rfl | rfl | rfl | rfl | rfl | rfl | rfl <;> rfl
theorem df_X1 : ∀ j, j < 3 → defaultValue (tyX1 j) = vp_V [.null, .null, .int 0] j := by
  intro j hj
  rcases (show j = 0 ∨ j = 1 ∨ j = 2 by omega) with rfl | rfl | rfl <;> rfl
theorem df_X2 : ∀ j, j < 12 → defaultValue (tyX2 j) = vp_V [.null, .null, .null, .null, .null, .null, .null, .null, .null, .null, .null, .int 0] j := by
  intro j hj
  rcases (show j = 0 ∨ j = 1 ∨ j = 2 ∨ j = 3 ∨ j = 4 ∨ j = 5 ∨ j = 6 ∨ j = 7 ∨ j = 8 ∨ j = 9 ∨ j = 10 ∨ j = 11 by omega) with rfl | rfl | rfl | rfl | rfl | rfl | rfl | rfl | rfl | rfl | rfl | rfl <;> rfl
theorem df_X3 : ∀ j, j < 6 → defaultValue (tyX3 j) = vp_V [.null, .null, .null, .null, .null, .int 0] j := by
  intro j hj
  rcases (show j = 0 ∨ j = 1 ∨ j = 2 ∨ j = 3 ∨ j = 4 ∨ j = 5 by omega) with rfl | rfl | rfl | rfl | rfl | rfl <;> rfl
theorem df_X4 : ∀ j, j < 5 → defaultValue (tyX4 j) = vp_V [.null, .null, .null, .null, .int 0] j := by
  intro j hj
  rcases (show j = 0 ∨ j = 1 ∨ j = 2 ∨ j = 3 ∨ j = 4 by omega) with rfl | rfl | rfl | rfl | rfl <;> rfl
theorem df_X5 : ∀ j, j < 5 → defaultValue (tyX5 j) = vp_V [.null, .null, .null, .null, .int 0] j := by
  intro j hj
  rcases (show j = 0 ∨ j = 1 ∨ j = 2 ∨ j = 3 ∨ j = 4 by omega) with rfl | rfl | rfl | rfl | rfl <;> rfl
theorem df_X6 : ∀ j, j < 8 → defaultValue (tyX6 j) = vp_V [.null, .null, .null, .null, .null, .null, .int 0, .int 0] j := by
  intro j hj
  rcases (show j = 0 ∨ j = 1 ∨ j = 2 ∨ j = 3 ∨ j = 4 ∨ j = 5 ∨ j = 6 ∨ j = 7 by omega) with rfl | rfl | rfl | rfl | rfl | rfl | rfl | rfl <;> rfl
theorem df_X7 : ∀ j, j < 11 → defaultValue (tyX7 j) = vp_V [.null, .null, .null, .null, .null, .null, .null, .null, .int 0, .int 0, .long 0] j := by
  intro j hj
  rcases (show j = 0 ∨ j = 1 ∨ j = 2 ∨ j = 3 ∨ j = 4 ∨ j = 5 ∨ j = 6 ∨ j = 7 ∨ j = 8 ∨ j = 9 ∨ j = 10 by omega) with rfl | rfl | rfl | rfl | rfl | rfl | rfl | rfl | rfl | rfl | rfl <;> rfl
theorem df_X8 : ∀ j, j < 27 → defaultValue (tyX8 j) = vp_V [.int 0, .int 0, .null, .int 0, .int 0, .null, .null, .null, .null, .null, .int 0, .int 0, .null, .int 0, .null, .int 0, .null, .int 0, .null, .int 0, .null, .int 0, .null, .null, .null, .int 0, .long 0] j := by
  intro j hj
  rcases (show j = 0 ∨ j = 1 ∨ j = 2 ∨ j = 3 ∨ j = 4 ∨ j = 5 ∨ j = 6 ∨ j = 7 ∨ j = 8 ∨ j = 9 ∨ j = 10 ∨ j = 11 ∨ j = 12 ∨ j = 13 ∨ j = 14 ∨ j = 15 ∨ j = 16 ∨ j = 17 ∨ j = 18 ∨ j = 19 ∨ j = 20 ∨ j = 21 ∨ j = 22 ∨ j = 23 ∨ j = 24 ∨ j = 25 ∨ j = 26 by omega) with rfl | rfl | rfl | rfl | rfl | rfl | rfl | rfl | rfl | rfl | rfl | rfl | rfl | rfl | rfl | rfl | rfl | rfl | rfl | rfl | rfl | rfl | rfl | rfl | rfl | rfl | rfl <;> rfl
def fin7 (cI cZ : ClassId) (h : Nat) (q : Nat → Nat → Nat) : va_W := (((((((([(h, .inr (7, [.ref (q 0 0), .ref (q 0 1), .ref (q 0 2), .ref (q 0 3), .ref (q 0 4), .ref (q 0 5), .ref (q 0 6), .ref (q 0 7), .int (nI 0), .int (nI 1), .long 0]))] ++ fin0 cI cZ (q 0 0) (q 1)) ++ fin3 cI cZ (q 0 1) (q 4)) ++ fin2 cI cZ (q 0 2) (q 3)) ++ fin4 cI cZ (q 0 3) (q 5)) ++ fin1 cI cZ (q 0 4) (q 2)) ++ fin5 cI cZ (q 0 5) (q 6)) ++ fin6 cI cZ (q 0 6) (q 7)) ++ [(q 0 7, .inl (cZ, 4, .inl (fun _ => 0)))])
def nw7 : State → Prop := fun U => va_Nw (.methodLinkNest RX7 9 yX0_init "FlueRounds") U ∧ va_Nw (.methodLinkNest RX7 18 yX3_init "FlueRounds") U ∧ va_Nw (.methodLinkNest RX7 25 yX2_init "FlueRounds") U ∧ va_Nw (.methodLinkNest RX7 32 yX4_init "FlueRounds") U ∧ va_Nw (.methodLinkNest RX7 39 yX1_init "FlueRounds") U ∧ va_Nw (.methodLinkNest RX7 46 yX5_init "FlueRounds") U ∧ va_Nw (.methodLinkNest RX7 53 yX6_init "FlueRounds") U
theorem kc_X7_init : KC yX7_init cX7_init := ⟨in_X7, co_yX7_init, by decide +kernel, rfl, im_yX7_init⟩
set_option maxHeartbeats 4000000 in
set_option maxRecDepth 100000 in
theorem m_X7_init (d : Nat) (D : va_G) (cI cZ : ClassId) : CtM D cI cZ nw7 (d + 2) 44 1463 yX7_init cX7_init 7 [.null, .null, .null, .null, .null, .null, .null, .null, .int 0, .int 0, .long 0] (fin7 cI cZ) := by
  refine ctm_of (d := d + 1) (by decide) rfl (fun X h0 (hN : nw7 X.2.2.2.2.1) (hX : CX X D cI cZ (d + 1) 44 1463 RX7 cX7_init 1 true) hR => ?_)
  unfold nw7 at hN
  refine cw_aload_0 hX dX7_init_0 ?_
  refine cw_objinit hX ml_X7_1 dX7_init_1 (by decide) ?_
  refine cw_aload_0 hX dX7_init_4 ?_
  refine cw_new hX (ci := 0) (fs := [.null, .int 0, .null, .null, .null, .int 0, .int 0, .int 0, .int 0]) inX0 tyX0 tyX0_ok kl_X7_7 ia_X0 in_X0 rfl df_X0 dX7_init_5 (by decide) (by decide) (fun q0 => ?_)
  refine cw_dup hX rfl dX7_init_8 ?_
  refine cw_initN hX (m_X0_init d D cI cZ) kc_X0_init hN.1 dX7_init_9 (Nat.le_of_ble_eq_true rfl) (by decide) (by decide) (fun w0 => ?_)
  refine cpf_X7 hX (k := 0) (q0 := 0) (by decide) fl_X7_10 dX7_init_12 rfl rfl rfl rfl rfl rfl rfl rfl (Nat.le_of_ble_eq_true rfl) ?_
  refine cw_nf (ws' := ([(h0, .inr (7, [.ref q0, .null, .null, .null, .null, .null, .null, .null, .int 0, .int 0, .long 0]))] ++ fin0 cI cZ q0 w0)) (kc' := 5) (ks' := 159) rfl rfl rfl ?_
  refine cw_aload_0 hX dX7_init_15 ?_
  refine cw_new hX (ci := 3) (fs := [.null, .null, .null, .null, .null, .int 0]) inX3 tyX3 tyX3_ok kl_X7_16 ia_X3 in_X3 rfl df_X3 dX7_init_16 (by decide) (by decide) (fun q1 => ?_)
  refine cw_dup hX rfl dX7_init_19 ?_
  refine cw_initN hX (m_X3_init d D cI cZ) kc_X3_init hN.2.1 dX7_init_20 (Nat.le_of_ble_eq_true rfl) (by decide) (by decide) (fun w3 => ?_)
  refine cpf_X7 hX (k := 1) (q0 := 0) (by decide) fl_X7_19 dX7_init_23 rfl rfl rfl rfl rfl rfl rfl rfl (Nat.le_of_ble_eq_true rfl) ?_
  refine cw_nf (ws' := (([(h0, .inr (7, [.ref q0, .ref q1, .null, .null, .null, .null, .null, .null, .int 0, .int 0, .long 0]))] ++ fin0 cI cZ q0 w0) ++ fin3 cI cZ q1 w3)) (kc' := 11) (ks' := 718) rfl rfl rfl ?_
  refine cw_aload_0 hX dX7_init_26 ?_
  refine cw_new hX (ci := 2) (fs := [.null, .null, .null, .null, .null, .null, .null, .null, .null, .null, .null, .int 0]) inX2 tyX2 tyX2_ok kl_X7_23 ia_X2 in_X2 rfl df_X2 dX7_init_27 (by decide) (by decide) (fun q2 => ?_)
  refine cw_dup hX rfl dX7_init_30 ?_
  refine cw_initN hX (m_X2_init d D cI cZ) kc_X2_init hN.2.2.1 dX7_init_31 (Nat.le_of_ble_eq_true rfl) (by decide) (by decide) (fun w2 => ?_)
  refine cpf_X7 hX (k := 2) (q0 := 0) (by decide) fl_X7_26 dX7_init_34 rfl rfl rfl rfl rfl rfl rfl rfl (Nat.le_of_ble_eq_true rfl) ?_
  refine cw_nf (ws' := ((([(h0, .inr (7, [.ref q0, .ref q1, .ref q2, .null, .null, .null, .null, .null, .int 0, .int 0, .long 0]))] ++ fin0 cI cZ q0 w0) ++ fin3 cI cZ q1 w3) ++ fin2 cI cZ q2 w2)) (kc' := 23) (ks' := 862) rfl rfl rfl ?_
  refine cw_aload_0 hX dX7_init_37 ?_
  refine cw_new hX (ci := 4) (fs := [.null, .null, .null, .null, .int 0]) inX4 tyX4 tyX4_ok kl_X7_30 ia_X4 in_X4 rfl df_X4 dX7_init_38 (by decide) (by decide) (fun q3 => ?_)
  refine cw_dup hX rfl dX7_init_41 ?_
  refine cw_initN hX (m_X4_init d D cI cZ) kc_X4_init hN.2.2.2.1 dX7_init_42 (Nat.le_of_ble_eq_true rfl) (by decide) (by decide) (fun w4 => ?_)
  refine cpf_X7 hX (k := 3) (q0 := 0) (by decide) fl_X7_33 dX7_init_45 rfl rfl rfl rfl rfl rfl rfl rfl (Nat.le_of_ble_eq_true rfl) ?_
  refine cw_nf (ws' := (((([(h0, .inr (7, [.ref q0, .ref q1, .ref q2, .ref q3, .null, .null, .null, .null, .int 0, .int 0, .long 0]))] ++ fin0 cI cZ q0 w0) ++ fin3 cI cZ q1 w3) ++ fin2 cI cZ q2 w2) ++ fin4 cI cZ q3 w4)) (kc' := 28) (ks' := 987) rfl rfl rfl ?_
  refine cw_aload_0 hX dX7_init_48 ?_
  refine cw_new hX (ci := 1) (fs := [.null, .null, .int 0]) inX1 tyX1 tyX1_ok kl_X7_37 ia_X1 in_X1 rfl df_X1 dX7_init_49 (by decide) (by decide) (fun q4 => ?_)
  refine cw_dup hX rfl dX7_init_52 ?_
  refine cw_initN hX (m_X1_init d D cI cZ) kc_X1_init hN.2.2.2.2.1 dX7_init_53 (Nat.le_of_ble_eq_true rfl) (by decide) (by decide) (fun w1 => ?_)
  refine cpf_X7 hX (k := 4) (q0 := 0) (by decide) fl_X7_40 dX7_init_56 rfl rfl rfl rfl rfl rfl rfl rfl (Nat.le_of_ble_eq_true rfl) ?_
  refine cw_nf (ws' := ((((([(h0, .inr (7, [.ref q0, .ref q1, .ref q2, .ref q3, .ref q4, .null, .null, .null, .int 0, .int 0, .long 0]))] ++ fin0 cI cZ q0 w0) ++ fin3 cI cZ q1 w3) ++ fin2 cI cZ q2 w2) ++ fin4 cI cZ q3 w4) ++ fin1 cI cZ q4 w1)) (kc' := 31) (ks' := 1010) rfl rfl rfl ?_
  refine cw_aload_0 hX dX7_init_59 ?_
  refine cw_new hX (ci := 5) (fs := [.null, .null, .null, .null, .int 0]) inX5 tyX5 tyX5_ok kl_X7_44 ia_X5 in_X5 rfl df_X5 dX7_init_60 (by decide) (by decide) (fun q5 => ?_)
  refine cw_dup hX rfl dX7_init_63 ?_
  refine cw_initN hX (m_X5_init d D cI cZ) kc_X5_init hN.2.2.2.2.2.1 dX7_init_64 (Nat.le_of_ble_eq_true rfl) (by decide) (by decide) (fun w5 => ?_)
  refine cpf_X7 hX (k := 5) (q0 := 0) (by decide) fl_X7_47 dX7_init_67 rfl rfl rfl rfl rfl rfl rfl rfl (Nat.le_of_ble_eq_true rfl) ?_
  refine cw_nf (ws' := (((((([(h0, .inr (7, [.ref q0, .ref q1, .ref q2, .ref q3, .ref q4, .ref q5, .null, .null, .int 0, .int 0, .long 0]))] ++ fin0 cI cZ q0 w0) ++ fin3 cI cZ q1 w3) ++ fin2 cI cZ q2 w2) ++ fin4 cI cZ q3 w4) ++ fin1 cI cZ q4 w1) ++ fin5 cI cZ q5 w5)) (kc' := 36) (ks' := 1415) rfl rfl rfl ?_
  refine cw_aload_0 hX dX7_init_70 ?_
  refine cw_new hX (ci := 6) (fs := [.null, .null, .null, .null, .null, .null, .int 0, .int 0]) inX6 tyX6 tyX6_ok kl_X7_51 ia_X6 in_X6 rfl df_X6 dX7_init_71 (by decide) (by decide) (fun q6 => ?_)
  refine cw_dup hX rfl dX7_init_74 ?_
  refine cw_initN hX (m_X6_init d D cI cZ) kc_X6_init hN.2.2.2.2.2.2 dX7_init_75 (Nat.le_of_ble_eq_true rfl) (by decide) (by decide) (fun w6 => ?_)
  refine cpf_X7 hX (k := 6) (q0 := 0) (by decide) fl_X7_54 dX7_init_78 rfl rfl rfl rfl rfl rfl rfl rfl (Nat.le_of_ble_eq_true rfl) ?_
  refine cw_nf (ws' := ((((((([(h0, .inr (7, [.ref q0, .ref q1, .ref q2, .ref q3, .ref q4, .ref q5, .ref q6, .null, .int 0, .int 0, .long 0]))] ++ fin0 cI cZ q0 w0) ++ fin3 cI cZ q1 w3) ++ fin2 cI cZ q2 w2) ++ fin4 cI cZ q3 w4) ++ fin1 cI cZ q4 w1) ++ fin5 cI cZ q5 w5) ++ fin6 cI cZ q6 w6)) (kc' := 43) (ks' := 1459) rfl rfl rfl ?_
  refine cw_aload_0 hX dX7_init_81 ?_
  refine cw_iconst hX (v := nI 4) (by decide) dX7_init_82 ?_
  refine cw_newaZ hX (N := 4) dX7_init_83 (by decide) (by decide) (by decide) (fun q7 => ?_)
  refine cpf_X7 hX (k := 7) (q0 := 0) (by decide) fl_X7_58 dX7_init_85 rfl rfl rfl rfl rfl rfl rfl rfl (Nat.le_of_ble_eq_true rfl) ?_
  refine cw_nf (ws' := (((((((([(h0, .inr (7, [.ref q0, .ref q1, .ref q2, .ref q3, .ref q4, .ref q5, .ref q6, .ref q7, .int 0, .int 0, .long 0]))] ++ fin0 cI cZ q0 w0) ++ fin3 cI cZ q1 w3) ++ fin2 cI cZ q2 w2) ++ fin4 cI cZ q3 w4) ++ fin1 cI cZ q4 w1) ++ fin5 cI cZ q5 w5) ++ fin6 cI cZ q6 w6) ++ [(q7, .inl (cZ, 4, .inl (fun _ => 0)))])) (kc' := 44) (ks' := 1463) rfl rfl rfl ?_
  refine cw_aload_0 hX dX7_init_88 ?_
  refine cw_iconst hX (v := nI 0) (by decide) dX7_init_89 ?_
  refine cpn_X7 hX (k := 8) (q0 := 0) (by decide) fl_X7_62 dX7_init_90 rfl rfl rfl rfl rfl rfl (Nat.le_of_ble_eq_true rfl) ?_
  refine cw_nf (ws' := (((((((([(h0, .inr (7, [.ref q0, .ref q1, .ref q2, .ref q3, .ref q4, .ref q5, .ref q6, .ref q7, .int (nI 0), .int 0, .long 0]))] ++ fin0 cI cZ q0 w0) ++ fin3 cI cZ q1 w3) ++ fin2 cI cZ q2 w2) ++ fin4 cI cZ q3 w4) ++ fin1 cI cZ q4 w1) ++ fin5 cI cZ q5 w5) ++ fin6 cI cZ q6 w6) ++ [(q7, .inl (cZ, 4, .inl (fun _ => 0)))])) (kc' := 44) (ks' := 1463) rfl rfl rfl ?_
  refine cw_aload_0 hX dX7_init_93 ?_
  refine cw_iconst hX (v := nI 1) (by decide) dX7_init_94 ?_
  refine cpn_X7 hX (k := 9) (q0 := 0) (by decide) fl_X7_66 dX7_init_95 rfl rfl rfl rfl rfl rfl (Nat.le_of_ble_eq_true rfl) ?_
  refine cw_nf (ws' := (((((((([(h0, .inr (7, [.ref q0, .ref q1, .ref q2, .ref q3, .ref q4, .ref q5, .ref q6, .ref q7, .int (nI 0), .int (nI 1), .long 0]))] ++ fin0 cI cZ q0 w0) ++ fin3 cI cZ q1 w3) ++ fin2 cI cZ q2 w2) ++ fin4 cI cZ q3 w4) ++ fin1 cI cZ q4 w1) ++ fin5 cI cZ q5 w5) ++ fin6 cI cZ q6 w6) ++ [(q7, .inl (cZ, 4, .inl (fun _ => 0)))])) (kc' := 44) (ks' := 1463) rfl rfl rfl ?_
  refine cw_aload_0 hX dX7_init_98 ?_
  refine cw_lconst hX (v := 0) (by decide) dX7_init_99 ?_
  refine cpn_X7 hX (k := 10) (q0 := 0) (by decide) fl_X7_69 dX7_init_100 rfl rfl rfl rfl rfl rfl (Nat.le_of_ble_eq_true rfl) ?_
  refine cw_nf (ws' := (((((((([(h0, .inr (7, [.ref q0, .ref q1, .ref q2, .ref q3, .ref q4, .ref q5, .ref q6, .ref q7, .int (nI 0), .int (nI 1), .long 0]))] ++ fin0 cI cZ q0 w0) ++ fin3 cI cZ q1 w3) ++ fin2 cI cZ q2 w2) ++ fin4 cI cZ q3 w4) ++ fin1 cI cZ q4 w1) ++ fin5 cI cZ q5 w5) ++ fin6 cI cZ q6 w6) ++ [(q7, .inl (cZ, 4, .inl (fun _ => 0)))])) (kc' := 44) (ks' := 1463) rfl rfl rfl ?_
  exact hR _ _ (fun j i => if j = 0 then ([q0, q1, q2, q3, q4, q5, q6, q7] : List Nat).getD i 0 else if j = 1 then w0 i else if j = 2 then w1 i else if j = 3 then w2 i else if j = 4 then w3 i else if j = 5 then w4 i else if j = 6 then w5 i else if j = 7 then w6 i else 0) dX7_init_103
