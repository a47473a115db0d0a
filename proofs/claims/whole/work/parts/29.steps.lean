theorem Rel.hd {S : St} (h : Rel S) : HdOK (S.1 7) (S.2.1 26) := fun j hj => (h.2.2.2.2.2.2.1 j hj).2.2.2.2.2.1
theorem Rel.hdm {S : St} (h : Rel S) : HdM S := by
  intro j hj
  rw [h.1.2.2.2.2.2.2.2.2.1] at hj
  rw [(h.2.2.2.2.2.1 j).2.2.2.2.2.2.2.1]
  exact h.hd j hj
theorem Rel.sw {S : St} (h : Rel S) {i : Nat} (hi : i < S.1 7) (day : Int32) : swX S i day = nI (tn (swX S i day)) ∧ tn (swX S i day) ≤ 500 := by
  have h0 := h.1.2.2.1
  unfold swX
  cases hla : laL (S.2.1 36) (S.2.1 37) (nI i) day (S.1 10) with
  | none =>
    have := (h.2.2.2.2.2.2.1 i hi).2.2.2.2.2.2
    exact ⟨this.1, Nat.le_trans this.2 h0⟩
  | some k =>
    have hk := laL_lt hla
    have := h.2.2.2.2.2.2.2.2.1.2.1 k hk
    exact ⟨this.1, Nat.le_trans this.2 h0⟩
theorem Rel.swok {S : St} (h : Rel S) : SwOK S := fun i hi => h.sw hi _
theorem Rel.of9 {S : St} (h : Rel S) : Of9 S := by
  intro i hi
  rw [h.1.2.2.2.2.2.2.2.2.1] at hi
  rw [h.2.2.2.2.2.2.2.1 i hi]
  exact h.sw hi _
theorem Rel.mok {S : St} (h : Rel S) : MOK S := by
  refine ⟨?_, ?_, h.bm, h.sp200, h.of9, h.hdm⟩
  · rw [h.1.2.2.2.2.2.2.2.2.1]; exact h.1.2.2.2.2.2.2.2.2.2.1
  · rw [h.1.2.2.2.2.2.2.2.2.2.2.1]; exact h.1.2.2.2.2.2.2.2.2.2.2.2.1
theorem Rel.la {S : St} (h : Rel S) (f day : Int32) : laL (fun k => S.2.1 55 (4 * k)) (fun k => S.2.1 55 (4 * k + 1)) f day (S.1 21) = laL (S.2.1 36) (S.2.1 37) f day (S.1 10) := by
  obtain ⟨hN, -, -, -, -, -, -, -, hW, -⟩ := h
  rw [hN.2.2.2.2.2.2.2.2.2.2.2.2.2.2.1, funext (fun k => (hW.1 k).1), funext (fun k => (hW.1 k).2.1)]
theorem Rel.swl {S : St} (h : Rel S) (i : Nat) (day : Int32) : swL S (nI i) day (ofM S i 8) (S.1 21) = swX S i day := by
  unfold swL swX
  rw [h.la]
  cases laL (S.2.1 36) (S.2.1 37) (nI i) day (S.1 10) with
  | none => exact (h.2.2.2.2.2.1 i).2.2.2.2.2.2.2.2.1
  | some k => exact (h.2.2.2.2.2.2.2.2.1.1 k).2.1
theorem Rel.swh {S : St} (h : Rel S) (i : Nat) (day : Int32) : swhL S (nI i) day (S.1 21) = swhX S i day := by
  unfold swhL swhX
  rw [h.la]
  cases laL (S.2.1 36) (S.2.1 37) (nI i) day (S.1 10) with
  | none => rfl
  | some k => exact (h.2.2.2.2.2.2.2.2.1.1 k).2.2.1
theorem laL_day {fl dy : Nat → Int32} {f d1 d2 : Int32} : ∀ n, (∀ k, k < n → dy k ≤ d1 ∧ dy k ≤ d2) → laL fl dy f d1 n = laL fl dy f d2 n
  | 0, _ => rfl
  | n + 1, h => by
    have h1 := h n (by omega)
    unfold laL
    rw [laL_day n (fun k hk => h k (by omega))]
    simp only [h1.1, h1.2, and_true]
theorem b_cases {x : Int32} (h : x = bI true ∨ x = bI false) : ∃ b, x = bI b := by
  rcases h with h | h
  · exact ⟨true, h⟩
  · exact ⟨false, h⟩
/-! the bytes that type appends -/
def wrB (v : Int64) : Nat → Nat → (Nat → Int32) → Nat → Int32
  | 0, _, f => f
  | k + 1, n, f => wrB v k (n + 1) (upd f n (byX v k))
theorem apX_A (v : Int64) : ∀ (k : Nat) (S : St), (apX v k S).2.1 10 = wrB v k (S.1 2) (S.2.1 10)
  | 0, S => rfl
  | k + 1, S => by rw [apX, apX_A v k]; rfl
theorem apX_o (v : Int64) {j : Nat} (h : j ≠ 10) : ∀ (k : Nat) (S : St), (apX v k S).2.1 j = S.2.1 j
  | 0, S => rfl
  | k + 1, S => by rw [apX, apX_o v h k, sN_A, sA_A, if_neg h]
theorem apX_n (v : Int64) {j : Nat} (h : j ≠ 2) : ∀ (k : Nat) (S : St), (apX v k S).1 j = S.1 j
  | 0, S => rfl
  | k + 1, S => by rw [apX, apX_n v h k, sN_N, if_neg h]; rfl
theorem apX_l (v : Int64) : ∀ (k : Nat) (S : St), (apX v k S).2.2 = S.2.2
  | 0, S => rfl
  | k + 1, S => by rw [apX, apX_l v k]; rfl
theorem and255 (x : Int32) : ∃ c : Nat, x &&& nI 255 = nI c ∧ c < 256 := by
  obtain ⟨j, hj, e⟩ := pk_andE x (m := nI 255) 8 (by decide)
  exact ⟨j, e, hj⟩
theorem wrB_ok (v : Int64) : ∀ (k n : Nat) (f : Nat → Int32), (∀ i, f i = nI (tn (f i)) ∧ tn (f i) < 256) → ∀ i, wrB v k n f i = nI (tn (wrB v k n f i)) ∧ tn (wrB v k n f i) < 256
  | 0, n, f, h => h
  | k + 1, n, f, h => by
    refine wrB_ok v k (n + 1) _ (fun i => ?_)
    unfold upd
    split
    · obtain ⟨c, e, hc⟩ := and255 ((v.toUInt64 >>> ((nI (8 * k)).toInt64.toUInt64 &&& Int64.toUInt64 63)).toInt64.toInt32)
      have : byX v k = nI c := e
      rw [this]
      have hcl : tn (nI c) = c := nI_clamp (by omega)
      rw [hcl]
      exact ⟨rfl, hc⟩
    · exact h i
theorem m255 {i : Nat} (h : ¬ i < 8) : (255#32).getLsbD i = false := by
  rw [BitVec.getLsbD_ofNat, show 255 = 2 ^ 8 - 1 from rfl, Nat.testBit_two_pow_sub_one]
  simp [h]
theorem by_0 (v : Int64) : byM v 0 = byX v 0 := by
  unfold byM byX
  apply Int32.toBitVec_inj.mp
  apply BitVec.eq_of_getLsbD_eq
  intro i hi
  rw [show ((nI (8 * 0)).toInt64 &&& 63) = (0 : Int64) by decide, show ((nI (8 * 0)).toInt64.toUInt64 &&& Int64.toUInt64 63) = (0 : UInt64) by decide]
  by_cases h8 : i < 8
  · simp [nI, BitVec.getLsbD_signExtend, BitVec.getLsbD_sshiftRight, BitVec.getElem_sshiftRight, show i < 64 by omega, show 0 + i < 64 by omega, show ¬ 64 ≤ i by omega]
  · simp [nI, m255 h8]
theorem by_1 (v : Int64) : byM v 1 = byX v 1 := by
  unfold byM byX
  apply Int32.toBitVec_inj.mp
  apply BitVec.eq_of_getLsbD_eq
  intro i hi
  rw [show ((nI (8 * 1)).toInt64 &&& 63) = (8 : Int64) by decide, show ((nI (8 * 1)).toInt64.toUInt64 &&& Int64.toUInt64 63) = (8 : UInt64) by decide]
  by_cases h8 : i < 8
  · simp [nI, BitVec.getLsbD_signExtend, BitVec.getLsbD_sshiftRight, BitVec.getElem_sshiftRight, show i < 64 by omega, show 8 + i < 64 by omega, show ¬ 64 ≤ i by omega]
  · simp [nI, m255 h8]
theorem by_2 (v : Int64) : byM v 2 = byX v 2 := by
  unfold byM byX
  apply Int32.toBitVec_inj.mp
  apply BitVec.eq_of_getLsbD_eq
  intro i hi
  rw [show ((nI (8 * 2)).toInt64 &&& 63) = (16 : Int64) by decide, show ((nI (8 * 2)).toInt64.toUInt64 &&& Int64.toUInt64 63) = (16 : UInt64) by decide]
  by_cases h8 : i < 8
  · simp [nI, BitVec.getLsbD_signExtend, BitVec.getLsbD_sshiftRight, BitVec.getElem_sshiftRight, show i < 64 by omega, show 16 + i < 64 by omega, show ¬ 64 ≤ i by omega]
  · simp [nI, m255 h8]
theorem by_3 (v : Int64) : byM v 3 = byX v 3 := by
  unfold byM byX
  apply Int32.toBitVec_inj.mp
  apply BitVec.eq_of_getLsbD_eq
  intro i hi
  rw [show ((nI (8 * 3)).toInt64 &&& 63) = (24 : Int64) by decide, show ((nI (8 * 3)).toInt64.toUInt64 &&& Int64.toUInt64 63) = (24 : UInt64) by decide]
  by_cases h8 : i < 8
  · simp [nI, BitVec.getLsbD_signExtend, BitVec.getLsbD_sshiftRight, BitVec.getElem_sshiftRight, show i < 64 by omega, show 24 + i < 64 by omega, show ¬ 64 ≤ i by omega]
  · simp [nI, m255 h8]
theorem by_4 (v : Int64) : byM v 4 = byX v 4 := by
  unfold byM byX
  apply Int32.toBitVec_inj.mp
  apply BitVec.eq_of_getLsbD_eq
  intro i hi
  rw [show ((nI (8 * 4)).toInt64 &&& 63) = (32 : Int64) by decide, show ((nI (8 * 4)).toInt64.toUInt64 &&& Int64.toUInt64 63) = (32 : UInt64) by decide]
  by_cases h8 : i < 8
  · simp [nI, BitVec.getLsbD_signExtend, BitVec.getLsbD_sshiftRight, BitVec.getElem_sshiftRight, show i < 64 by omega, show 32 + i < 64 by omega, show ¬ 64 ≤ i by omega]
  · simp [nI, m255 h8]
theorem by_5 (v : Int64) : byM v 5 = byX v 5 := by
  unfold byM byX
  apply Int32.toBitVec_inj.mp
  apply BitVec.eq_of_getLsbD_eq
  intro i hi
  rw [show ((nI (8 * 5)).toInt64 &&& 63) = (40 : Int64) by decide, show ((nI (8 * 5)).toInt64.toUInt64 &&& Int64.toUInt64 63) = (40 : UInt64) by decide]
  by_cases h8 : i < 8
  · simp [nI, BitVec.getLsbD_signExtend, BitVec.getLsbD_sshiftRight, BitVec.getElem_sshiftRight, show i < 64 by omega, show 40 + i < 64 by omega, show ¬ 64 ≤ i by omega]
  · simp [nI, m255 h8]
theorem by_6 (v : Int64) : byM v 6 = byX v 6 := by
  unfold byM byX
  apply Int32.toBitVec_inj.mp
  apply BitVec.eq_of_getLsbD_eq
  intro i hi
  rw [show ((nI (8 * 6)).toInt64 &&& 63) = (48 : Int64) by decide, show ((nI (8 * 6)).toInt64.toUInt64 &&& Int64.toUInt64 63) = (48 : UInt64) by decide]
  by_cases h8 : i < 8
  · simp [nI, BitVec.getLsbD_signExtend, BitVec.getLsbD_sshiftRight, BitVec.getElem_sshiftRight, show i < 64 by omega, show 48 + i < 64 by omega, show ¬ 64 ≤ i by omega]
  · simp [nI, m255 h8]
theorem by_7 (v : Int64) : byM v 7 = byX v 7 := by
  unfold byM byX
  apply Int32.toBitVec_inj.mp
  apply BitVec.eq_of_getLsbD_eq
  intro i hi
  rw [show ((nI (8 * 7)).toInt64 &&& 63) = (56 : Int64) by decide, show ((nI (8 * 7)).toInt64.toUInt64 &&& Int64.toUInt64 63) = (56 : UInt64) by decide]
  by_cases h8 : i < 8
  · simp [nI, BitVec.getLsbD_signExtend, BitVec.getLsbD_sshiftRight, BitVec.getElem_sshiftRight, show i < 64 by omega, show 56 + i < 64 by omega, show ¬ 64 ≤ i by omega]
  · simp [nI, m255 h8]
theorem by_eq (v : Int64) (k : Nat) (hk : k < 8) : byM v k = byX v k := by
  rcases (show k = 0 ∨ k = 1 ∨ k = 2 ∨ k = 3 ∨ k = 4 ∨ k = 5 ∨ k = 6 ∨ k = 7 by omega) with rfl | rfl | rfl | rfl | rfl | rfl | rfl | rfl
  · exact by_0 v
  · exact by_1 v
  · exact by_2 v
  · exact by_3 v
  · exact by_4 v
  · exact by_5 v
  · exact by_6 v
  · exact by_7 v
theorem apM_A (v : Int64) : ∀ (k : Nat) (S : St), k ≤ 8 → (apM v k S).2.1 46 = wrB v k (S.1 15) (S.2.1 46)
  | 0, S, _ => rfl
  | k + 1, S, h => by rw [apM, apM_A v k _ (by omega), by_eq v k (by omega)]; rfl
theorem apM_o (v : Int64) {j : Nat} (h : j ≠ 46) : ∀ (k : Nat) (S : St), (apM v k S).2.1 j = S.2.1 j
  | 0, S => rfl
  | k + 1, S => by rw [apM, apM_o v h k, sN_A, sA_A, if_neg h]
theorem apM_n (v : Int64) {j : Nat} (h : j ≠ 15) : ∀ (k : Nat) (S : St), (apM v k S).1 j = S.1 j
  | 0, S => rfl
  | k + 1, S => by rw [apM, apM_n v h k, sN_N, if_neg h]; rfl
theorem apM_l (v : Int64) : ∀ (k : Nat) (S : St), (apM v k S).2.2 = S.2.2
  | 0, S => rfl
  | k + 1, S => by rw [apM, apM_l v k]; rfl
