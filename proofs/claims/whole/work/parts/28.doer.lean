def mnN (de hh : Nat → Nat) (h : Nat) : Nat → Nat
  | 0 => 100
  | n + 1 => if hh n = h ∧ de n < mnN de hh h n then de n else mnN de hh h n
theorem mnN_le {de hh : Nat → Nat} {h : Nat} : ∀ n, mnN de hh h n ≤ 100
  | 0 => Nat.le_refl _
  | n + 1 => by
    have := mnN_le (de := de) (hh := hh) (h := h) n
    unfold mnN
    split <;> omega
theorem mnN_min {de hh : Nat → Nat} {h : Nat} : ∀ n j, j < n → hh j = h → mnN de hh h n ≤ de j
  | n + 1, j, hj, e => by
    unfold mnN
    by_cases ej : j = n
    · subst ej
      split
      · exact Nat.le_refl _
      · omega
    · have := mnN_min (de := de) n j (by omega) e
      split <;> omega
theorem mnN_ex {de hh : Nat → Nat} {h : Nat} : ∀ n, mnN de hh h n = 100 ∨ ∃ j, j < n ∧ hh j = h ∧ de j = mnN de hh h n
  | 0 => Or.inl rfl
  | n + 1 => by
    unfold mnN
    split
    · rename_i q
      exact Or.inr ⟨n, Nat.lt_succ_self _, q.1, rfl⟩
    · rcases mnN_ex (de := de) (hh := hh) (h := h) n with q | ⟨j, h1, h2, h3⟩
      · exact Or.inl q
      · exact Or.inr ⟨j, by omega, h2, h3⟩
theorem neL_nat {fa hd : Nat → Int32} {de hh : Nat → Nat} {h : Nat} (hh4 : h < 4) : ∀ n, (∀ j, j < n → fa j = nI (de j) ∧ de j ≤ 40 ∧ hd j = nI (hh j) ∧ hh j < 4) → neL fa hd (nI h) n = nI (mnN de hh h n)
  | 0, _ => rfl
  | n + 1, hy => by
    have ih := neL_nat (fa := fa) (hd := hd) (de := de) (hh := hh) hh4 n (fun j hj => hy j (by omega))
    obtain ⟨h1, h2, h3, h4⟩ := hy n (by omega)
    have hm := mnN_le (de := de) (hh := hh) (h := h) n
    unfold neL mnN
    rw [ih, h1, h3]
    have e : (nI (hh n) = nI h ∧ ¬ nI (mnN de hh h n) ≤ nI (de n)) ↔ (hh n = h ∧ de n < mnN de hh h n) := by
      rw [nI_eq (by omega) (by omega), nI_leI (by omega) (by omega), Nat.not_le]
    by_cases q : hh n = h ∧ de n < mnN de hh h n
    · rw [if_pos q, if_pos (e.mpr q)]
    · rw [if_neg q, if_neg (fun z => q (e.mp z))]
/-- what nearestHand finds -/
theorem nhL_spec {x y hd il : Nat → Int32} {i : Nat} {de hh : Nat → Nat} : ∀ n, (∀ j, j < n → wyR x y i j = nI (de j) ∧ de j ≤ 40 ∧ hd j = nI (hh j) ∧ hh j < 4) →
    ((∀ j, j < n → ¬ il (hh j) = 0) ∧ nhL x y hd il i n = (-9, nI 1000000)) ∨ ∃ b m, nhL x y hd il i n = (nI b, nI m) ∧ b < 4 ∧ m ≤ 40 ∧ il b = 0 ∧ (∃ j, j < n ∧ hh j = b ∧ de j = m) ∧ ∀ j, j < n → il (hh j) = 0 → m < de j ∨ (m = de j ∧ b ≤ hh j)
  | 0, _ => Or.inl ⟨fun j hj => absurd hj (Nat.not_lt_zero _), rfl⟩
  | n + 1, hy => by
    obtain ⟨h1, h2, h3, h4⟩ := hy n (by omega)
    have e1 : tn (hd n) = hh n := by rw [h3]; exact nI_clamp (by omega)
    have key : nhL x y hd il i (n + 1) = if il (hh n) = 0 ∧ (¬ (nhL x y hd il i n).2 ≤ nI (de n) ∨ (nI (de n) = (nhL x y hd il i n).2 ∧ ¬ (nhL x y hd il i n).1 ≤ nI (hh n))) then (nI (hh n), nI (de n)) else nhL x y hd il i n := by
      rw [nhL, e1, h1, h3]
    rcases nhL_spec (de := de) (hh := hh) n (fun j hj => hy j (by omega)) with ⟨q1, q2⟩ | ⟨b, m, q1, q2, q3, q4, ⟨j0, q5, q6, q7⟩, q8⟩
    · by_cases hi : il (hh n) = 0
      · refine Or.inr ⟨hh n, de n, ?_, h4, h2, hi, ⟨n, Nat.lt_succ_self _, rfl, rfl⟩, fun j hj hij => ?_⟩
        · rw [key, q2, if_pos ⟨hi, Or.inl (by rw [nI_leI (by decide) (by omega)]; omega)⟩]
        · by_cases ej : j = n
          · subst ej; exact Or.inr ⟨rfl, Nat.le_refl _⟩
          · exact absurd hij (q1 j (by omega))
      · refine Or.inl ⟨fun j hj => ?_, ?_⟩
        · by_cases ej : j = n
          · subst ej; exact hi
          · exact q1 j (by omega)
        · rw [key, if_neg (fun z => hi z.1), q2]
    · have kc : (¬ (nhL x y hd il i n).2 ≤ nI (de n) ∨ (nI (de n) = (nhL x y hd il i n).2 ∧ ¬ (nhL x y hd il i n).1 ≤ nI (hh n))) ↔ (de n < m ∨ (de n = m ∧ hh n < b)) := by
        rw [q1]
        simp only
        rw [nI_leI (by omega) (by omega), nI_eq (by omega) (by omega), nI_leI (by omega) (by omega), Nat.not_le, Nat.not_le]
      rw [key]
      by_cases hc : il (hh n) = 0 ∧ (¬ (nhL x y hd il i n).2 ≤ nI (de n) ∨ (nI (de n) = (nhL x y hd il i n).2 ∧ ¬ (nhL x y hd il i n).1 ≤ nI (hh n)))
      · rw [if_pos hc]
        have hk := kc.mp hc.2
        refine Or.inr ⟨hh n, de n, rfl, h4, h2, hc.1, ⟨n, Nat.lt_succ_self _, rfl, rfl⟩, fun j hj hij => ?_⟩
        by_cases ej : j = n
        · subst ej; exact Or.inr ⟨rfl, Nat.le_refl _⟩
        · have := q8 j (by omega) hij
          omega
      · rw [if_neg hc]
        refine Or.inr ⟨b, m, q1, q2, q3, q4, ⟨j0, by omega, q6, q7⟩, fun j hj hij => ?_⟩
        by_cases ej : j = n
        · subst ej
          have : ¬ (de j < m ∨ (de j = m ∧ hh j < b)) := fun z => hc ⟨hij, kc.mpr z⟩
          omega
        · exact q8 j (by omega) hij
theorem dmL_spec {ne il : Nat → Int32} {g : Nat → Nat} (hg : ∀ h, h < 4 → ne h = nI (g h) ∧ g h ≤ 100) : ∀ c, c ≤ 4 →
    ((∀ h, 4 - c ≤ h → h < 4 → ¬ il h = 0) ∧ dmL ne il c = (-9, nI 1000)) ∨ ∃ b m, dmL ne il c = (nI b, nI m) ∧ 4 - c ≤ b ∧ b < 4 ∧ il b = 0 ∧ g b = m ∧ ∀ h, 4 - c ≤ h → h < 4 → il h = 0 → m < g h ∨ (m = g h ∧ b ≤ h)
  | 0, _ => Or.inl ⟨fun h h1 h2 => by omega, rfl⟩
  | c + 1, hc4 => by
    obtain ⟨h1, h2⟩ := hg (3 - c) (by omega)
    have key : dmL ne il (c + 1) = if il (3 - c) = 0 ∧ nI (g (3 - c)) ≤ (dmL ne il c).2 then (nI (3 - c), nI (g (3 - c))) else dmL ne il c := by rw [dmL, h1]
    rw [key]
    rcases dmL_spec (il := il) hg c (by omega) with ⟨q1, q2⟩ | ⟨b, m, q1, q2, q3, q4, q5, q6⟩
    · by_cases hi : il (3 - c) = 0
      · rw [if_pos ⟨hi, by rw [q2]; exact (nI_leI (by omega) (by decide)).mpr (by omega)⟩]
        refine Or.inr ⟨3 - c, g (3 - c), rfl, by omega, by omega, hi, rfl, fun h a1 a2 a3 => ?_⟩
        by_cases e : h = 3 - c
        · subst e; exact Or.inr ⟨rfl, Nat.le_refl _⟩
        · exact absurd a3 (q1 h (by omega) a2)
      · rw [if_neg (fun z => hi z.1)]
        refine Or.inl ⟨fun h a1 a2 => ?_, q2⟩
        by_cases e : h = 3 - c
        · subst e; exact hi
        · exact q1 h (by omega) a2
    · have hgb := (hg b q3).2
      by_cases hcn : il (3 - c) = 0 ∧ nI (g (3 - c)) ≤ (dmL ne il c).2
      · rw [if_pos hcn]
        have hle : g (3 - c) ≤ m := by
          have := hcn.2
          rw [q1] at this
          exact (nI_leI (by omega) (by omega)).mp this
        refine Or.inr ⟨3 - c, g (3 - c), rfl, by omega, by omega, hcn.1, rfl, fun h a1 a2 a3 => ?_⟩
        by_cases e : h = 3 - c
        · subst e; exact Or.inr ⟨rfl, Nat.le_refl _⟩
        · have := q6 h (by omega) a2 a3
          omega
      · rw [if_neg hcn]
        refine Or.inr ⟨b, m, q1, by omega, q3, q4, q5, fun h a1 a2 a3 => ?_⟩
        by_cases e : h = 3 - c
        · subst e
          have : ¬ g (3 - c) ≤ m := fun z => hcn ⟨a3, by rw [q1]; exact (nI_leI (by omega) (by omega)).mpr z⟩
          omega
        · exact q6 h (by omega) a2 a3
theorem liL_spec {il : Nat → Int32} : ∀ n h, (∃ b, liL il n h = nI b ∧ h ≤ b ∧ b < h + n ∧ il b = 0 ∧ ∀ a, h ≤ a → a < b → ¬ il a = 0) ∨ (liL il n h = -9 ∧ ∀ a, h ≤ a → a < h + n → ¬ il a = 0)
  | 0, h => Or.inr ⟨rfl, fun a h1 h2 => by omega⟩
  | n + 1, h => by
    by_cases hi : il h = 0
    · exact Or.inl ⟨h, by rw [liL, if_pos hi], Nat.le_refl _, by omega, hi, fun a h1 h2 => by omega⟩
    · rcases liL_spec (il := il) n (h + 1) with ⟨b, q1, q2, q3, q4, q5⟩ | ⟨q1, q2⟩
      · refine Or.inl ⟨b, by rw [liL, if_neg hi]; exact q1, by omega, by omega, q4, fun a h1 h2 => ?_⟩
        by_cases e : a = h
        · subst e; exact hi
        · exact q5 a (by omega) h2
      · refine Or.inr ⟨by rw [liL, if_neg hi]; exact q1, fun a h1 h2 => ?_⟩
        by_cases e : a = h
        · subst e; exact hi
        · exact q2 a (by omega) (by omega)
theorem Rel.do_ {S : St} (h : Rel S) {i : Nat} (hi : i < S.1 7) : doM S i = doX S i := by
  obtain ⟨hN, -, -, hI, -, hF, hV, -⟩ := h
  have h7 := hN.2.2.2.2.2.2.2.2.2.1
  have h18 := hN.2.2.2.2.2.2.2.2.1
  unfold doM doX doO
  rw [hI.1, (hF i).2.2.2.2.2.2.2.1]
  by_cases hil : S.2.1 9 (tn (S.2.1 26 i)) = 0
  · rw [if_pos hil, if_pos hil]
  rw [if_neg hil, if_neg hil]
  -- numbers
  have hx : ∀ j, j < S.1 7 → wyR (S.2.1 24) (S.2.1 25) i j = nI (adN (tn (S.2.1 24 i)) (tn (S.2.1 24 j)) + adN (tn (S.2.1 25 i)) (tn (S.2.1 25 j))) ∧ adN (tn (S.2.1 24 i)) (tn (S.2.1 24 j)) + adN (tn (S.2.1 25 i)) (tn (S.2.1 25 j)) ≤ 40 ∧ S.2.1 26 j = nI (tn (S.2.1 26 j)) ∧ tn (S.2.1 26 j) < 4 := by
    intro j hj
    obtain ⟨-, -, -, ⟨a1, a2⟩, ⟨a3, a4⟩, ⟨a5, a6⟩, -⟩ := hV j hj
    obtain ⟨-, -, -, ⟨b1, b2⟩, ⟨b3, b4⟩, -, -⟩ := hV i hi
    refine ⟨?_, ?_, a5, a6⟩
    · unfold wyR
      rw [← nI_add, ← ab_nI (a := tn (S.2.1 24 i)) (by omega) (by omega), ← ab_nI (a := tn (S.2.1 25 i)) (by omega) (by omega), ← a1, ← a3, ← b1, ← b3]
    · have e1 := adN_le b2 a2
      have e2 := adN_le b4 a4
      omega
  have hfa : ∀ j, j < S.1 7 → faM S i j = nI (adN (tn (S.2.1 24 i)) (tn (S.2.1 24 j)) + adN (tn (S.2.1 25 i)) (tn (S.2.1 25 j))) := by
    intro j hj
    obtain ⟨-, -, -, ⟨a1, a2⟩, ⟨a3, a4⟩, -, -⟩ := hV j hj
    obtain ⟨-, -, -, ⟨b1, b2⟩, ⟨b3, b4⟩, -, -⟩ := hV i hi
    rw [← (hx j hj).1]
    unfold faM wyR
    rw [(hF j).2.2.2.2.2.1, (hF i).2.2.2.2.2.1, (hF j).2.2.2.2.2.2.1, (hF i).2.2.2.2.2.2.1, ab_ab2, ab_ab2, a1, a3, b1, b3, ab_neg (a := tn (S.2.1 24 j)) (by omega) (by omega), ab_neg (a := tn (S.2.1 25 j)) (by omega) (by omega)]
  generalize hde : (fun j => adN (tn (S.2.1 24 i)) (tn (S.2.1 24 j)) + adN (tn (S.2.1 25 i)) (tn (S.2.1 25 j))) = de at *
  have hde' : ∀ j, adN (tn (S.2.1 24 i)) (tn (S.2.1 24 j)) + adN (tn (S.2.1 25 i)) (tn (S.2.1 25 j)) = de j := fun j => congrFun hde j
  have hx2 : ∀ j, j < S.1 7 → wyR (S.2.1 24) (S.2.1 25) i j = nI (de j) ∧ de j ≤ 40 ∧ S.2.1 26 j = nI (tn (S.2.1 26 j)) ∧ tn (S.2.1 26 j) < 4 := by
    intro j hj
    have := hx j hj
    rw [hde' j] at this
    exact this
  have hg : ∀ h, h < 4 → neM S i h = nI (mnN de (fun j => tn (S.2.1 26 j)) h (S.1 7)) ∧ mnN de (fun j => tn (S.2.1 26 j)) h (S.1 7) ≤ 100 := by
    intro h hh
    refine ⟨?_, mnN_le _⟩
    unfold neM
    rw [h18]
    refine neL_nat hh _ (fun j hj => ?_)
    have h1 := hx2 j hj
    refine ⟨by rw [hfa j hj, hde' j], h1.2.1, ?_, h1.2.2.2⟩
    show ofM S j 7 = _
    rw [(hF j).2.2.2.2.2.2.2.1]
    exact h1.2.2.1
  have hnh := nhL_spec (il := S.2.1 9) (S.1 7) hx2
  have hdm := dmL_spec (il := S.2.1 9) hg 4 (Nat.le_refl _)
  have hli := liL_spec (il := S.2.1 9) 4 0
  have hm100 : ∀ h, mnN de (fun j => tn (S.2.1 26 j)) h (S.1 7) = 100 ∨ ∃ j, j < S.1 7 ∧ tn (S.2.1 26 j) = h ∧ de j = mnN de (fun j => tn (S.2.1 26 j)) h (S.1 7) := fun h => mnN_ex _
  have hmin : ∀ h j, j < S.1 7 → tn (S.2.1 26 j) = h → mnN de (fun j => tn (S.2.1 26 j)) h (S.1 7) ≤ de j := fun h j hj e => mnN_min _ j hj e
  rcases hnh with ⟨n1, n2⟩ | ⟨b, m, n1, n2, n3, n4, ⟨j0, n5, n6, n7⟩, n8⟩
  · rw [n2]
    simp only [if_true]
    have hall : ∀ h, h < 4 → S.2.1 9 h = 0 → mnN de (fun j => tn (S.2.1 26 j)) h (S.1 7) = 100 := by
      intro h hh h0
      rcases hm100 h with q | ⟨j, q1, q2, q3⟩
      · exact q
      · exact absurd (by rw [q2]; exact h0) (n1 j q1)
    rcases hdm with ⟨d1, d2⟩ | ⟨b, m, d1, d2, d3, d4, d5, d6⟩
    · rw [d2]
      rcases hli with ⟨b, l1, l2, l3, l4, l5⟩ | ⟨l1, l2⟩
      · exact absurd l4 (d1 b (by omega) (by omega))
      · rw [l1]
    · rw [d1]
      rcases hli with ⟨b', l1, l2, l3, l4, l5⟩ | ⟨l1, l2⟩
      · rw [l1]
        have e1 := hall b d3 d4
        have e2 := hall b' (by omega) l4
        have := d6 b' (by omega) (by omega) l4
        have hb : b = b' := by
          rcases Nat.lt_or_ge b b' with z | z
          · exact absurd d4 (l5 b (by omega) z)
          · omega
        rw [hb]
      · exact absurd d4 (l2 b (by omega) (by omega))
  · rw [n1]
    simp only
    rw [if_neg (ne9 (by omega))]
    have hgb := hmin b j0 n5 n6
    rcases hdm with ⟨d1, d2⟩ | ⟨b', m', d1, d2, d3, d4, d5, d6⟩
    · exact absurd n4 (d1 b (by omega) n2)
    · rw [d1]
      have q1 := d6 b (by omega) n2 n4
      have hb' : b' = b := by
        rcases hm100 b' with z | ⟨j, z1, z2, z3⟩
        · omega
        · have := n8 j z1 (by rw [z2]; exact d4)
          omega
      rw [hb']
