/-! what ties the two states, piece by piece -/
def rN (S : St) : Prop := S.1 13 = 0 ∧ S.1 14 = S.1 0 ∧ S.1 0 ≤ 500 ∧ S.1 22 = S.1 1 ∧ S.1 15 = S.1 2 ∧ S.1 2 ≤ 60 ∧ S.1 16 = S.1 6 ∧ S.1 6 ≤ 6 ∧ S.1 18 = S.1 7 ∧ S.1 7 ≤ 12 ∧ S.1 19 = S.1 8 ∧ S.1 8 ≤ 30 ∧ S.1 20 = S.1 9 ∧ S.1 9 ≤ 10 ∧ S.1 21 = S.1 10 ∧ S.1 10 ≤ 100 ∧ S.1 23 = S.1 11 ∧ S.1 11 ≤ 6 ∧ S.1 24 = S.1 12
def rL (S : St) : Prop := S.2.2.1 1 = S.2.2.1 0
def rD (S : St) : Prop := S.2.1 46 = S.2.1 10 ∧ ∀ i, S.2.1 10 i = nI (tn (S.2.1 10 i)) ∧ tn (S.2.1 10 i) < 256
def rI (S : St) : Prop := S.2.1 56 = S.2.1 9 ∧ ∀ h, S.2.1 9 h = bI true ∨ S.2.1 9 h = bI false
def rB (S : St) : Prop := S.2.1 47 = S.2.1 14 ∧ S.2.1 48 = S.2.1 15 ∧ StOK (S.1 6) (S.2.1 15) ∧ ∀ i, i < tn (S.2.1 15 (S.1 6)) → S.2.1 49 i = S.2.1 16 i ∧ S.2.1 50 i = S.2.1 17 i ∧ S.2.1 51 i = S.2.1 18 i ∧ S.2.1 17 i ≤ nI 200
def rF (S : St) : Prop := ∀ j, ofM S j 0 = S.2.1 19 j ∧ ofM S j 1 = S.2.1 20 j ∧ ofM S j 2 = S.2.1 21 j ∧ ofM S j 3 = S.2.1 22 j ∧ ofM S j 4 = S.2.1 23 j ∧ ofM S j 5 = S.2.1 24 j ∧ ofM S j 6 = S.2.1 25 j ∧ ofM S j 7 = S.2.1 26 j ∧ ofM S j 8 = S.2.1 27 j ∧ ofM S j 10 = S.2.1 28 j
def rV (S : St) : Prop := ∀ j, j < S.1 7 → (S.2.1 19 j = nI (tn (S.2.1 19 j)) ∧ tn (S.2.1 19 j) < 3) ∧ (S.2.1 20 j = nI (tn (S.2.1 20 j)) ∧ tn (S.2.1 20 j) < 3) ∧ ¬ S.2.1 22 j ≤ 0 ∧ (S.2.1 24 j = nI (tn (S.2.1 24 j)) ∧ tn (S.2.1 24 j) ≤ 20) ∧ (S.2.1 25 j = nI (tn (S.2.1 25 j)) ∧ tn (S.2.1 25 j) ≤ 20) ∧ (S.2.1 26 j = nI (tn (S.2.1 26 j)) ∧ tn (S.2.1 26 j) < 4) ∧ (S.2.1 27 j = nI (tn (S.2.1 27 j)) ∧ tn (S.2.1 27 j) ≤ S.1 0)
def rS (S : St) : Prop := ∀ j, j < S.1 7 → ofM S j 9 = swX S j (nI (S.1 0))
def rW (S : St) : Prop := (∀ k, S.2.1 55 (4 * k) = S.2.1 36 k ∧ S.2.1 55 (4 * k + 1) = S.2.1 37 k ∧ S.2.1 55 (4 * k + 2) = S.2.1 38 k ∧ S.2.1 55 (4 * k + 3) = S.2.1 39 k) ∧ (∀ k, k < S.1 10 → S.2.1 37 k = nI (tn (S.2.1 37 k)) ∧ tn (S.2.1 37 k) ≤ S.1 0) ∧ ∀ k, k < S.1 10 → S.2.1 36 k = nI (tn (S.2.1 36 k)) ∧ tn (S.2.1 36 k) < S.1 7
def rK (S : St) : Prop := ∀ k, S.2.1 53 (4 * k) = S.2.1 30 k ∧ S.2.1 53 (4 * k + 1) = S.2.1 31 k ∧ S.2.1 53 (4 * k + 2) = S.2.1 33 k ∧ S.2.1 53 (4 * k + 3) = S.2.1 32 k
def rQ (S : St) : Prop := (∀ k, S.2.1 54 (2 * k) = S.2.1 34 k ∧ S.2.1 54 (2 * k + 1) = S.2.1 35 k) ∧ ∀ k, k < S.1 9 → S.2.1 34 k = nI (tn (S.2.1 34 k)) ∧ tn (S.2.1 34 k) < S.1 7
def rT (S : St) : Prop := (∀ i, i < S.1 11 → S.2.1 57 i = S.2.1 45 i) ∧ ∀ i, S.2.1 43 i = 0
def Rel (S : St) : Prop := rN S ∧ rL S ∧ rD S ∧ rI S ∧ rB S ∧ rF S ∧ rV S ∧ rS S ∧ rW S ∧ rK S ∧ rQ S ∧ rT S
/-! what follows for the methods -/
theorem Rel.bk {S : St} (h : Rel S) : BkOK S := ⟨h.1.2.2.2.2.2.2.2.1, h.2.2.2.2.1.2.2.1⟩
theorem Rel.bm {S : St} (h : Rel S) : BmOK S := by
  obtain ⟨hN, -, -, -, hB, -⟩ := h
  refine ⟨by rw [hN.2.2.2.2.2.2.1]; exact hN.2.2.2.2.2.2.2.1, ?_⟩
  rw [hN.2.2.2.2.2.2.1, hB.2.1]
  exact hB.2.2.1
theorem spL_congr {ff sp fr ff' sp' fr' : Nat → Int32} {fuel day : Int32} {lo : Nat} : ∀ n : Nat, (∀ i, i < lo + n → ff i = ff' i ∧ sp i = sp' i ∧ fr i = fr' i) → spL ff sp fr fuel day lo n = spL ff' sp' fr' fuel day lo n
  | 0, _ => rfl
  | n + 1, h => by
    unfold spL
    obtain ⟨h1, h2, h3⟩ := h (lo + n) (by omega)
    rw [h1, h2, h3, spL_congr n (fun i hi => h i (by omega))]
theorem StOK.mono {nl : Nat} {st : Nat → Int32} (h : StOK nl st) : ∀ (b a : Nat), a ≤ b → b ≤ nl → tn (st a) ≤ tn (st b)
  | 0, a, hab, _ => by rw [show a = 0 by omega]; exact Nat.le_refl _
  | b + 1, a, hab, hb => by
    by_cases e : a = b + 1
    · rw [e]; exact Nat.le_refl _
    · exact Nat.le_trans (StOK.mono h b a (by omega) (by omega)) (h.2 b (by omega))
theorem Rel.sp {S : St} (h : Rel S) (fuel day : Int32) : spM S fuel day = spO (S.1 6) (S.2.1 14) (S.2.1 15) (S.2.1 16) (S.2.1 17) (S.2.1 18) fuel day := by
  obtain ⟨hN, -, -, -, hB, -⟩ := h
  unfold spM
  rw [hN.2.2.2.2.2.2.1, hB.1, hB.2.1]
  unfold spO
  cases hi : infL (S.2.1 14) day (S.1 6) with
  | none => rfl
  | some k =>
    have hk := infL_lt hi
    have hm := StOK.mono hB.2.2.1 (S.1 6) (k + 1) (by omega) (Nat.le_refl _)
    have hlh := hB.2.2.1.2 k hk
    refine spL_congr _ (fun i hi => ?_)
    have := hB.2.2.2 i (by omega)
    exact ⟨this.1, this.2.1, this.2.2.1⟩
theorem spL_le {ff sp fr : Nat → Int32} {fuel day : Int32} {lo : Nat} : ∀ n : Nat, (∀ i, i < lo + n → sp i ≤ nI 200) → spL ff sp fr fuel day lo n ≤ nI 200
  | 0, _ => by show nI 100 ≤ nI 200; decide
  | n + 1, h => by
    unfold spL
    split
    · exact h _ (by omega)
    · exact spL_le n (fun i hi => h i (by omega))
theorem Rel.sp200 {S : St} (h : Rel S) (fuel day : Int32) : spM S fuel day ≤ nI 200 := by
  rw [h.sp]
  obtain ⟨hN, -, -, -, hB, -⟩ := h
  unfold spO
  cases hi : infL (S.2.1 14) day (S.1 6) with
  | none => show nI 100 ≤ nI 200; decide
  | some k =>
    have hk := infL_lt hi
    have hm := StOK.mono hB.2.2.1 (S.1 6) (k + 1) (by omega) (Nat.le_refl _)
    have hlh := hB.2.2.1.2 k hk
    exact spL_le _ (fun i hi => (hB.2.2.2 i (by omega)).2.2.2)
theorem Rel.du {S : St} (h : Rel S) (fuel : Int32) (w : Nat) : duM S fuel w = duX S fuel w := by
  unfold duM duX duO
  congr 2
  funext j
  exact congrArg (fun x => decide (x ≤ nI j)) (h.sp fuel (nI (w + j)))
theorem Rel.kn {S : St} (h : Rel S) (f day : Int32) : knM S f day = knX S f day := by
  obtain ⟨hN, -, -, -, -, -, -, -, -, hK, -⟩ := h
  unfold knM knX
  rw [hN.2.2.2.2.2.2.2.2.2.2.1, funext (fun k => (hK k).1), funext (fun k => (hK k).2.1), funext (fun k => (hK k).2.2.1), funext (fun k => (hK k).2.2.2)]
theorem Rel.fo {S : St} (h : Rel S) (i : Nat) : foM S i = foX S i := by
  have hF := h.2.2.2.2.2.1 i
  unfold foM foX
  rw [h.kn, h.1.2.1, hF.2.2.2.2.2.2.2.2.2]
theorem ab_ab2 (a : Int32) : ab2 a = ab a := by unfold ab ab2; rw [Int32.zero_sub]
theorem ab_neg {a b : Nat} (ha : a < 2 ^ 30) (hb : b < 2 ^ 30) : ab (nI a - nI b) = ab (nI b - nI a) := by
  rw [ab_nI ha hb, ab_nI hb ha]
  congr 1
  unfold adN
  split <;> split <;> omega
/-! the doer: least over flues, then over hands; and least over hands of the least over their flues -/
theorem neL_step {fa hd : Nat → Int32} {h : Int32} (n : Nat) : neL fa hd h (n + 1) = if hd n = h ∧ ¬ neL fa hd h n ≤ fa n then fa n else neL fa hd h n := rfl
