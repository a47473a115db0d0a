/-! the two readings of THE DRAFT are one -/
theorem dg_256 : ∀ b, b < 256 → (48 ≤ b ∧ b ≤ 57 → (if nI b - nI 48 ≤ nI 9 then nI b - nI 48 else -1) = nI (b - 48)) ∧ (¬ (48 ≤ b ∧ b ≤ 57) → ¬ (0 : Int32) ≤ (if nI b - nI 48 ≤ nI 9 then nI b - nI 48 else -1)) := by decide +kernel
theorem isDM_mk {S : St} {a : Nat} (hb : ByM S) (h1 : a < S.1 15) (h2 : 48 ≤ tn (S.2.1 46 a)) (h3 : tn (S.2.1 46 a) ≤ 57) : isDM S a = true := by
  have hx := hb a
  simp only [isDM, Bool.and_eq_true, decide_eq_true_eq]
  generalize S.2.1 46 a = x at *
  obtain ⟨e, l⟩ := hx
  generalize tn x = b at *
  subst e
  exact ⟨⟨h1, (nI_leI (by decide) (by omega)).mpr h2⟩, (nI_leI (by omega) (by decide)).mpr h3⟩
theorem dgX_t {S T : St} (hb : ByM S) (h2 : T.1 2 = S.1 15) (hA : T.2.1 10 = S.2.1 46) (h : isDM S (T.1 4) = true) : dgX T = nI (tn (S.2.1 46 (T.1 4)) - 48) := by
  have hc := isDM_of hb h
  have hx := hb (T.1 4)
  unfold dgX
  rw [h2, if_pos hc.1, hA]
  generalize S.2.1 46 (T.1 4) = x at *
  obtain ⟨e, l⟩ := hx
  generalize tn x = b at *
  subst e
  exact (dg_256 b l).1 hc.2
theorem dgX_f {S T : St} (hb : ByM S) (h2 : T.1 2 = S.1 15) (hA : T.2.1 10 = S.2.1 46) (h : isDM S (T.1 4) = false) : ¬ 0 ≤ dgX T := by
  have hx := hb (T.1 4)
  unfold dgX
  rw [h2, hA]
  by_cases ha : T.1 4 < S.1 15
  · rw [if_pos ha]
    have hn : ¬ (48 ≤ tn (S.2.1 46 (T.1 4)) ∧ tn (S.2.1 46 (T.1 4)) ≤ 57) := fun z => by
      rw [isDM_mk hb ha z.1 z.2] at h
      cases h
    generalize S.2.1 46 (T.1 4) = x at *
    obtain ⟨e, l⟩ := hx
    generalize tn x = b at *
    subst e
    exact (dg_256 b l).2 hn
  · rw [if_neg ha]; decide
theorem sn_sm {S : St} (hb : ByM S) {m : Nat} (hm : m ≤ 500) : ∀ (k : Nat) (T : St) (v : Nat), T.1 2 = S.1 15 → T.2.1 10 = S.2.1 46 → T.2.2.2 0 = nI v → 1 ≤ v → v ≤ m →
    (snX m k T).1 = (smM S m k v (T.1 4)).1 ∧ (snX m k T).2.1 4 = (smM S m k v (T.1 4)).2.2 ∧ ((smM S m k v (T.1 4)).1 = true → (snX m k T).2.2.2.2 0 = nI (smM S m k v (T.1 4)).2.1)
  | 0, T, v, h2, hA, hR, h1, hv => ⟨rfl, rfl, fun _ => hR⟩
  | k + 1, T, v, h2, hA, hR, h1, hv => by
    cases hd : isDM S (T.1 4) with
    | false => rw [smM_n hd, snX, if_pos (Or.inr (Or.inr (dgX_f hb h2 hA hd)))]; exact ⟨rfl, rfl, fun _ => hR⟩
    | true =>
      have hc := isDM_of hb hd
      have hg := dgX_t hb h2 hA hd
      have e : T.2.2.2 0 * nI 10 + dgX T = nI (10 * v + tn (S.2.1 46 (T.1 4)) - 48) := by
        rw [hR, hg, pk_mul, nI_add]
        congr 1
        omega
      have hn : ¬ (T.2.2.2 0 ≤ 0 ∨ T.1 2 ≤ T.1 4 ∨ ¬ 0 ≤ dgX T) := by
        rintro (z | z | z)
        · rw [hR] at z; exact nI_nle (by omega) (by omega) z
        · omega
        · exact z (by rw [hg]; exact nI_pos' (by omega))
      rw [snX, if_neg hn, e]
      by_cases hle : 10 * v + tn (S.2.1 46 (T.1 4)) - 48 ≤ m
      · rw [if_pos ((nI_leI (by omega) (by omega)).mpr hle), smM_t hd hle (by omega)]
        exact sn_sm hb hm k (sN (sR T 0 (nI (10 * v + tn (S.2.1 46 (T.1 4)) - 48))) 4 (T.1 4 + 1)) _ h2 hA rfl (by omega) hle
      · rw [if_neg (fun z => hle ((nI_leI (by omega) (by omega)).mp z)), smM_f hd (fun z => hle z.1)]
        exact ⟨rfl, rfl, fun z => by cases z⟩
theorem rn_nu {S T : St} (hb : ByM S) (h2 : T.1 2 = S.1 15) (hA : T.2.1 10 = S.2.1 46) {kd l m : Nat} (hk : kd < 4) (hl : l = if kd = 3 then 0 else 1) (hm : m = moM kd) :
    ((rnX T l m).1 = (nuM S kd (T.1 4 + 1)).1 ∧ (rnX T l m).2.1 4 = (nuM S kd (T.1 4 + 1)).2.2 ∧ ((nuM S kd (T.1 4 + 1)).1 = true → (rnX T l m).2.2.2.2 0 = nI (nuM S kd (T.1 4 + 1)).2.1 ∧ (nuM S kd (T.1 4 + 1)).2.1 ≤ m ∧ T.1 4 + 2 ≤ (nuM S kd (T.1 4 + 1)).2.2 ∧ (nuM S kd (T.1 4 + 1)).2.2 ≤ S.1 15)) ∨
    (kd = 3 ∧ (rnX T l m).1 = true ∧ (rnX T l m).2.1 4 = T.1 4 + 2 ∧ (rnX T l m).2.2.2.2 0 = nI 0 ∧ isDM S (T.1 4 + 2) = true ∧ (nuM S kd (T.1 4 + 1)).1 = false ∧ (nuM S kd (T.1 4 + 1)).2.2 = T.1 4 + 2) := by
  have hm5 : m ≤ 500 := by rw [hm]; unfold moM; split <;> omega
  have hm2 : 200 ≤ m := by rw [hm]; unfold moM; split <;> omega
  have hl1 : l ≤ 1 := by rw [hl]; split <;> omega
  have e4 : (sN T 4 (T.1 4 + 1)).1 4 = T.1 4 + 1 := rfl
  cases hd : isDM S (T.1 4 + 1) with
  | false =>
    have hf := dgX_f (T := sN T 4 (T.1 4 + 1)) hb h2 hA hd
    refine Or.inl ?_
    rw [nuM_f hd, rnX, if_neg (fun z => hf (Int32.le_trans (nI_pos' (by omega)) z))]
    exact ⟨rfl, rfl, fun z => by cases z⟩
  | true =>
    have hc := isDM_of hb hd
    have hg := dgX_t (T := sN T 4 (T.1 4 + 1)) hb h2 hA hd
    rw [e4] at hg
    by_cases h0 : tn (S.2.1 46 (T.1 4 + 1)) = 48
    · have hx := (hb (T.1 4 + 1)).1
      rw [h0] at hx
      rw [h0] at hg
      by_cases h3 : kd = 3
      · subst h3
        rw [if_pos rfl] at hl
        subst hl
        have er : rnX T 0 m = (true, sN (sR (sN T 4 (T.1 4 + 1)) 0 (nI 0)) 4 (T.1 4 + 1 + 1)) := by
          rw [rnX, show dgX (sN T 4 (T.1 4 + 1)) = nI 0 from hg, if_pos (by decide), snX, if_pos (Or.inl (by show nI 0 ≤ 0; decide))]
        have en : nuM S 3 (T.1 4 + 1) = smM S (moM 3) 60 0 (T.1 4 + 1 + 1) := by rw [nuM_t hd (by omega), h0]
        rw [er, en]
        cases hd2 : isDM S (T.1 4 + 1 + 1) with
        | false =>
          rw [smM_n hd2]
          exact Or.inl ⟨rfl, rfl, fun _ => ⟨rfl, Nat.zero_le _, Nat.le_refl _, by show T.1 4 + 1 + 1 ≤ S.1 15; omega⟩⟩
        | true =>
          rw [smM_f hd2 (fun z => by have := isDM_of hb hd2; omega)]
          exact Or.inr ⟨rfl, rfl, rfl, rfl, rfl, rfl, rfl⟩
      · refine Or.inl ?_
        rw [if_neg h3] at hl
        subst hl
        rw [nuM_0 (by omega) hx, rnX, hg, if_neg (by decide)]
        exact ⟨rfl, rfl, fun z => by cases z⟩
    · refine Or.inl ?_
      have hx := (hb (T.1 4 + 1)).1
      have hz : ¬ S.2.1 46 (T.1 4 + 1) = nI 48 := fun z => h0 (by rw [z]; decide)
      rw [nuM_t hd (fun z => hz z.2), rnX, hg, if_pos ((nI_leI (by omega) (by omega)).mpr (by omega)), ← hm]
      have := sn_sm hb hm5 60 (sN (sR (sN T 4 (T.1 4 + 1)) 0 (nI (tn (S.2.1 46 (T.1 4 + 1)) - 48))) 4 (T.1 4 + 1 + 1)) (tn (S.2.1 46 (T.1 4 + 1)) - 48) h2 hA rfl (by omega) (by omega)
      have ha := smM_adv (m := m) hb 60 (tn (S.2.1 46 (T.1 4 + 1)) - 48) (T.1 4 + 1 + 1) (by omega) (by omega)
      exact ⟨this.1, this.2.1, fun z => ⟨this.2.2 z, ha.2.2 z, ha.1, ha.2.1⟩⟩
/-- what the two hold while they read -/
def LRa (n0 : Nat) (T S : St) : Prop := ∀ i, i < T.1 3 → S.2.1 49 (n0 + i) = T.2.1 11 i ∧ S.2.1 50 (n0 + i) = T.2.1 12 i ∧ S.2.1 51 (n0 + i) = T.2.1 13 i ∧ T.2.1 12 i ≤ nI 200
def LR (n0 : Nat) (T S : St) : Prop := T.1 2 = S.1 15 ∧ T.2.1 10 = S.2.1 46 ∧ ByM S ∧ S.1 15 ≤ 60 ∧ T.1 4 ≤ S.1 15 ∧ 2 * T.1 3 ≤ T.1 4 ∧ LRa n0 T S
def LC (n0 k : Nat) (T S : St) : Prop := (riX k T).1 = (rdM k S (n0 + T.1 3) (T.1 5) (T.1 4)).1 ∧ ((riX k T).1 = -9 → (rdM k S (n0 + T.1 3) (T.1 5) (T.1 4)).2.1 17 = n0 + (riX k T).2.1 3 ∧ LRa n0 (riX k T).2 (rdM k S (n0 + T.1 3) (T.1 5) (T.1 4)).2 ∧ (riX k T).2.1 3 ≤ 30) ∧ ∀ i, i < n0 → (rdM k S (n0 + T.1 3) (T.1 5) (T.1 4)).2.2.1 49 i = S.2.1 49 i ∧ (rdM k S (n0 + T.1 3) (T.1 5) (T.1 4)).2.2.1 50 i = S.2.1 50 i ∧ (rdM k S (n0 + T.1 3) (T.1 5) (T.1 4)).2.2.1 51 i = S.2.1 51 i
theorem LC_end {n0 k : Nat} {T S : St} (h : LR n0 T S) (e1 : riX k T = (-9, T)) (e2 : rdM k S (n0 + T.1 3) (T.1 5) (T.1 4) = (-9, sN S 17 (n0 + T.1 3))) : LC n0 k T S := by
  obtain ⟨h2, hA, hb, h15, h4, h3, ha⟩ := h
  unfold LC
  rw [e1, e2]
  exact ⟨rfl, fun _ => ⟨rfl, ha, by show T.1 3 ≤ 30; omega⟩, fun i _ => ⟨rfl, rfl, rfl⟩⟩
theorem nI_n9 {n : Nat} (h : n < 2 ^ 31) : ¬ nI n = -9 := by
  intro z
  have h1 := nI_toInt h
  rw [z] at h1
  have : (-9 : Int32).toInt = -9 := by decide
  omega
theorem LC_f {n0 k p : Nat} {T T' S : St} (hp : p < 2 ^ 31) (e1 : riX k T = (nI p, T')) (e2 : rdM k S (n0 + T.1 3) (T.1 5) (T.1 4) = (nI p, S)) : LC n0 k T S := by
  unfold LC
  rw [e1, e2]
  exact ⟨rfl, fun z => absurd z (nI_n9 hp), fun i _ => ⟨rfl, rfl, rfl⟩⟩
theorem LC_s {n0 k : Nat} {T T' S S' : St} (e1 : riX (k + 1) T = riX k T') (e2 : rdM (k + 1) S (n0 + T.1 3) (T.1 5) (T.1 4) = rdM k S' (n0 + T'.1 3) (T'.1 5) (T'.1 4)) (hS : ∀ i, i < n0 → S'.2.1 49 i = S.2.1 49 i ∧ S'.2.1 50 i = S.2.1 50 i ∧ S'.2.1 51 i = S.2.1 51 i) (h : LC n0 k T' S') : LC n0 (k + 1) T S := by
  unfold LC at h ⊢
  rw [e1, e2]
  refine ⟨h.1, h.2.1, fun i hi => ?_⟩
  have h1 := h.2.2 i hi
  have h2 := hS i hi
  exact ⟨h1.1.trans h2.1, h1.2.1.trans h2.2.1, h1.2.2.trans h2.2.2⟩
theorem riX_s {k : Nat} {T T' : St} {x : Int32} (he : ¬ T.1 2 ≤ T.1 4) (hx : T.2.1 10 (T.1 4) = x) (h : rsX T x = (true, T')) : riX (k + 1) T = riX k T' := by
  rw [riX, if_neg he, hx, h]; rfl
theorem riX_f {k : Nat} {T T' : St} {x : Int32} (he : ¬ T.1 2 ≤ T.1 4) (hx : T.2.1 10 (T.1 4) = x) (h : rsX T x = (false, T')) : riX (k + 1) T = (nI (T'.1 4), T') := by
  rw [riX, if_neg he, hx, h]; rfl
theorem rsX_p {T : St} {x : Int32} {f : Nat} (h : x = nI 103 ∧ f = 0 ∨ x = nI 119 ∧ f = 1 ∨ x = nI 99 ∧ f = 2) : rsX T x = rpX T f := by
  rcases h with ⟨rfl, rfl⟩ | ⟨rfl, rfl⟩ | ⟨rfl, rfl⟩ <;> simp +decide [rsX]
theorem rsX_64 {T : St} : rsX T (nI 64) = rfX T := by simp +decide [rsX]
theorem rsX_32 {T : St} : rsX T (nI 32) = (true, sN T 4 (T.1 4 + 1)) := by simp [rsX]
theorem rsX_d {T : St} {x : Int32} (e1 : ¬ x = nI 32) (e2 : ¬ x = nI 64) (e3 : ¬ x = nI 99) (e4 : ¬ x = nI 103) (e5 : ¬ x = nI 119) : rsX T x = (false, T) := by
  simp only [rsX, if_neg e1, if_neg e2, if_neg e3, if_neg e4, if_neg e5]
theorem LC_p {n0 k f : Nat} {T S : St} (hLR : LR n0 T S) (he : ¬ S.1 15 ≤ T.1 4) (hx : S.2.1 46 (T.1 4) = nI 103 ∧ f = 0 ∨ S.2.1 46 (T.1 4) = nI 119 ∧ f = 1 ∨ S.2.1 46 (T.1 4) = nI 99 ∧ f = 2) (ih : ∀ T' S' : St, LR n0 T' S' → S'.1 15 ≤ T'.1 4 + k → LC n0 k T' S') (hk : S.1 15 ≤ T.1 4 + (k + 1)) : LC n0 (k + 1) T S := by
  obtain ⟨h2, hA, hb, h15, h4, h3, ha⟩ := hLR
  have hf : f < 3 := by omega
  have hkd : kdM (S.2.1 46 (T.1 4)) = f := by
    rcases hx with ⟨e, rfl⟩ | ⟨e, rfl⟩ | ⟨e, rfl⟩ <;> rw [e] <;> decide
  have hr := rsX_p (T := T) hx
  have hxT : T.2.1 10 (T.1 4) = S.2.1 46 (T.1 4) := by rw [hA]
  have heT : ¬ T.1 2 ≤ T.1 4 := by rw [h2]; exact he
  rcases rn_nu (kd := f) (l := 1) (m := 200) hb h2 hA (by omega) (by rw [if_neg (by omega)]) (by unfold moM; rw [if_neg (by omega)]) with ⟨q1, q2, q3⟩ | ⟨q, -⟩
  · cases hn : nuM S f (T.1 4 + 1) with
    | mk ok va =>
      obtain ⟨v, a'⟩ := va
      rw [hn] at q1 q2 q3
      cases ok with
      | false =>
        refine LC_f (p := a') (T' := (rnX T 1 200).2) ?_ ?_ (rdM_f he hkd (by omega) hn)
        · have : (rnX T 1 200).1 = false := q1
          have hle : a' ≤ 62 := by
            have hn' := hn
            unfold nuM at hn'
            split at hn'
            · rename_i hc
              have hcc := isDM_of hb hc.1
              have := smM_adv (m := moM f) hb 60 (tn (S.2.1 46 (T.1 4 + 1)) - 48) (T.1 4 + 1 + 1) (by omega) (by unfold moM; split <;> omega)
              rw [hn'] at this
              have h7 : a' ≤ S.1 15 := this.2.1
              omega
            · cases hn'; omega
          omega
        · rw [riX_f heT hxT (T' := (rnX T 1 200).2) (by rw [hr, rpX, q1]; rfl), q2]
      | true =>
        obtain ⟨q4, q5, q6, q7⟩ := q3 rfl
        have er : rpX T f = (true, itX (rnX T 1 200).2 f) := by rw [rpX, q1]; rfl
        have e3 : (itX (rnX T 1 200).2 f).1 3 = T.1 3 + 1 := by show (rnX T 1 200).2.1 3 + 1 = _; rw [rnX_3]
        have e5 : (itX (rnX T 1 200).2 f).1 5 = T.1 5 := rnX_5
        have e4 : (itX (rnX T 1 200).2 f).1 4 = a' := q2
        have e2 : (itX (rnX T 1 200).2 f).1 2 = S.1 15 := rnX_2.trans h2
        have q6' : T.1 4 + 2 ≤ a' := q6
        have q7' : a' ≤ S.1 15 := q7
        refine LC_s (T' := itX (rnX T 1 200).2 f) (S' := iaM S (n0 + T.1 3) f v (T.1 5)) (riX_s heT hxT (hr.trans er)) ?_ ?_ (ih _ _ ⟨e2, ?_, hb, h15, ?_, ?_, ?_⟩ ?_)
        · rw [rdM_i he hkd hf hn, e3, e5, e4]; rfl
        · intro i hi
          exact ⟨upd_n (by omega), upd_n (by omega), upd_n (by omega)⟩
        · show (rnX T 1 200).2.2.1 10 = S.2.1 46
          rw [rnX_A]; exact hA
        · rw [e4]; exact q7'
        · rw [e3, e4]; omega
        · intro i hi
          rw [e3] at hi
          show upd (S.2.1 49) (n0 + T.1 3) (nI f) (n0 + i) = upd ((rnX T 1 200).2.2.1 11) ((rnX T 1 200).2.1 3) (nI f) i ∧ upd (S.2.1 50) (n0 + T.1 3) (nI v) (n0 + i) = upd ((rnX T 1 200).2.2.1 12) ((rnX T 1 200).2.1 3) ((rnX T 1 200).2.2.2.2 0) i ∧ upd (S.2.1 51) (n0 + T.1 3) (nI (T.1 5)) (n0 + i) = upd ((rnX T 1 200).2.2.1 13) ((rnX T 1 200).2.1 3) (nI ((rnX T 1 200).2.1 5)) i ∧ upd ((rnX T 1 200).2.2.1 12) ((rnX T 1 200).2.1 3) ((rnX T 1 200).2.2.2.2 0) i ≤ nI 200
          rw [rnX_A, rnX_3, rnX_5, q4]
          by_cases e : i = T.1 3
          · subst e
            rw [upd_s, upd_s, upd_s, upd_s, upd_s, upd_s]
            exact ⟨rfl, rfl, rfl, (nI_leI (by omega) (by decide)).mpr q5⟩
          · rw [upd_n (show ¬ n0 + i = n0 + T.1 3 by omega), upd_n (show ¬ n0 + i = n0 + T.1 3 by omega), upd_n (show ¬ n0 + i = n0 + T.1 3 by omega), upd_n e, upd_n e, upd_n e]
            exact ha i (by omega)
        · rw [e4]; show S.1 15 ≤ a' + k; omega
  · omega
theorem LC_64 {n0 k : Nat} {T S : St} (hLR : LR n0 T S) (he : ¬ S.1 15 ≤ T.1 4) (hx : S.2.1 46 (T.1 4) = nI 64) (ih : ∀ T' S' : St, LR n0 T' S' → S'.1 15 ≤ T'.1 4 + k → LC n0 k T' S') (hk : S.1 15 ≤ T.1 4 + (k + 1)) : LC n0 (k + 1) T S := by
  obtain ⟨h2, hA, hb, h15, h4, h3, ha⟩ := hLR
  have hkd : kdM (S.2.1 46 (T.1 4)) = 3 := by rw [hx]; decide
  have hxT : T.2.1 10 (T.1 4) = nI 64 := by rw [hA, hx]
  have heT : ¬ T.1 2 ≤ T.1 4 := by rw [h2]; exact he
  rcases rn_nu (kd := 3) (l := 0) (m := 500) hb h2 hA (by omega) rfl rfl with ⟨q1, q2, q3⟩ | ⟨-, q1, q2, q3, q4, q5, q6⟩
  · cases hn : nuM S 3 (T.1 4 + 1) with
    | mk ok va =>
      obtain ⟨v, a'⟩ := va
      rw [hn] at q1 q2 q3
      cases ok with
      | false =>
        refine LC_f (p := a') (T' := (rnX T 0 500).2) ?_ ?_ (rdM_f he hkd (by omega) hn)
        · have hle : a' ≤ 62 := by
            have hn' := hn
            unfold nuM at hn'
            split at hn'
            · rename_i hc
              have hcc := isDM_of hb hc.1
              have := smM_adv (m := moM 3) hb 60 (tn (S.2.1 46 (T.1 4 + 1)) - 48) (T.1 4 + 1 + 1) (by omega) (by unfold moM; split <;> omega)
              rw [hn'] at this
              have h7 : a' ≤ S.1 15 := this.2.1
              omega
            · cases hn'; omega
          omega
        · rw [riX_f heT hxT (T' := (rnX T 0 500).2) (by rw [rsX_64, rfX, q1]; rfl), q2]
      | true =>
        obtain ⟨q4, q5, q6, q7⟩ := q3 rfl
        have q6' : T.1 4 + 2 ≤ a' := q6
        have q7' : a' ≤ S.1 15 := q7
        have q5' : v ≤ 500 := q5
        have ev : tn ((rnX T 0 500).2.2.2.2 0) = v := by rw [q4]; exact tnI (by show v < 2 ^ 31; omega)
        have er : rfX T = (true, sN (rnX T 0 500).2 5 v) := by rw [rfX, q1, ← ev]; rfl
        refine LC_s (T' := sN (rnX T 0 500).2 5 v) (S' := S) (riX_s heT hxT (rsX_64.trans er)) ?_ (fun i _ => ⟨rfl, rfl, rfl⟩) (ih _ _ ⟨rnX_2.trans h2, ?_, hb, h15, ?_, ?_, ?_⟩ ?_)
        · rw [rdM_3 he hkd hn, show (sN (rnX T 0 500).2 5 v).1 3 = T.1 3 from rnX_3, show (sN (rnX T 0 500).2 5 v).1 5 = v from rfl, show (sN (rnX T 0 500).2 5 v).1 4 = a' from q2]
        · show (rnX T 0 500).2.2.1 10 = S.2.1 46
          rw [rnX_A]; exact hA
        · rw [show (sN (rnX T 0 500).2 5 v).1 4 = a' from q2]; exact q7'
        · rw [show (sN (rnX T 0 500).2 5 v).1 4 = a' from q2, show (sN (rnX T 0 500).2 5 v).1 3 = T.1 3 from rnX_3]; omega
        · intro i hi
          rw [show (sN (rnX T 0 500).2 5 v).1 3 = T.1 3 from rnX_3] at hi
          rw [show (sN (rnX T 0 500).2 5 v).2.1 = T.2.1 from rnX_A]
          exact ha i hi
        · rw [show (sN (rnX T 0 500).2 5 v).1 4 = a' from q2]; omega
  · have hd2 := isDM_of hb q4
    have ev : tn ((rnX T 0 500).2.2.2.2 0) = 0 := by rw [q3]; rfl
    have er : rfX T = (true, sN (rnX T 0 500).2 5 0) := by rw [rfX, q1, if_pos rfl, ev]
    cases hn : nuM S 3 (T.1 4 + 1) with
    | mk ok va =>
      obtain ⟨v, a'⟩ := va
      rw [hn] at q5 q6
      have q5' : ok = false := q5
      have q6' : a' = T.1 4 + 2 := q6
      subst q5' q6'
      refine LC_f (p := T.1 4 + 2) (T' := sN (rnX T 0 500).2 5 0) (by omega) ?_ (rdM_f he hkd (by omega) hn)
      rw [riX_s heT hxT (rsX_64.trans er)]
      obtain ⟨j, rfl⟩ : ∃ j, k = j + 1 := ⟨k - 1, by omega⟩
      have e4 : (sN (rnX T 0 500).2 5 0).1 4 = T.1 4 + 2 := q2
      have eb : (sN (rnX T 0 500).2 5 0).2.1 10 (T.1 4 + 2) = S.2.1 46 (T.1 4 + 2) := by show (rnX T 0 500).2.2.1 10 _ = _; rw [rnX_A, hA]
      have hne : ∀ c : Nat, c < 256 → (c < 48 ∨ 57 < c) → ¬ S.2.1 46 (T.1 4 + 2) = nI c := fun c hc hr z => by
        have := hd2.2
        rw [z, tnI (by omega)] at this
        omega
      rw [riX_f (T := sN (rnX T 0 500).2 5 0) (x := S.2.1 46 (T.1 4 + 2)) (T' := sN (rnX T 0 500).2 5 0) (by rw [e4]; show ¬ (rnX T 0 500).2.1 2 ≤ _; rw [rnX_2, h2]; omega) (by rw [e4]; exact eb) (rsX_d (hne _ (by decide) (by decide)) (hne _ (by decide) (by decide)) (hne _ (by decide) (by decide)) (hne _ (by decide) (by decide)) (hne _ (by decide) (by decide))), e4]
theorem ri_rd {n0 : Nat} : ∀ (k : Nat) (T S : St), LR n0 T S → S.1 15 ≤ T.1 4 + k → LC n0 k T S
  | 0, T, S, h, hk => LC_end h rfl rfl
  | k + 1, T, S, h, hk => by
    have h0 := id h
    obtain ⟨h2, hA, hb, h15, h4, h3, ha⟩ := h0
    by_cases he : S.1 15 ≤ T.1 4
    · exact LC_end h (by rw [riX, if_pos (by rw [h2]; exact he)]) (rdM_e he)
    have heT : ¬ T.1 2 ≤ T.1 4 := by rw [h2]; exact he
    have hxT : T.2.1 10 (T.1 4) = S.2.1 46 (T.1 4) := by rw [hA]
    by_cases e1 : S.2.1 46 (T.1 4) = nI 103
    · exact LC_p h he (Or.inl ⟨e1, rfl⟩) (ri_rd k) hk
    by_cases e2 : S.2.1 46 (T.1 4) = nI 119
    · exact LC_p h he (Or.inr (Or.inl ⟨e2, rfl⟩)) (ri_rd k) hk
    by_cases e3 : S.2.1 46 (T.1 4) = nI 99
    · exact LC_p h he (Or.inr (Or.inr ⟨e3, rfl⟩)) (ri_rd k) hk
    by_cases e4 : S.2.1 46 (T.1 4) = nI 64
    · exact LC_64 h he e4 (ri_rd k) hk
    by_cases e5 : S.2.1 46 (T.1 4) = nI 32
    · refine LC_s (T' := sN T 4 (T.1 4 + 1)) (S' := S) (riX_s heT hxT (by rw [e5]; exact rsX_32)) (by rw [rdM_4 he (kdM_4 e1 e2 e3 e4 e5)]; rfl) (fun i _ => ⟨rfl, rfl, rfl⟩) (ri_rd k _ _ ⟨h2, hA, hb, h15, ?_, ?_, ha⟩ ?_)
      · show T.1 4 + 1 ≤ S.1 15; omega
      · show 2 * T.1 3 ≤ T.1 4 + 1; omega
      · show S.1 15 ≤ T.1 4 + 1 + k; omega
    exact LC_f (p := T.1 4) (T' := T) (by omega) (riX_f heT hxT (rsX_d e5 e4 e3 e1 e2)) (rdM_5 he (kdM_5 e1 e2 e3 e4 e5))
/-! the class's reading alone -/
def mM (T : St) : St := (fun j => if j = 15 then T.1 2 else T.1 j, fun j => if j = 46 then T.2.1 10 else T.2.1 j, T.2.2)
theorem rn_ok {T : St} (h : OkP T) {kd l m : Nat} (hk : kd < 4) (hl : l = if kd = 3 then 0 else 1) (hm : m = moM kd) (hr : (rnX T l m).1 = true) : ∃ v, (rnX T l m).2.2.2.2 0 = nI v ∧ v ≤ 500 ∧ T.1 4 + 2 ≤ (rnX T l m).2.1 4 ∧ (rnX T l m).2.1 4 ≤ T.1 2 := by
  have hb : ByM (mM T) := h.2.2.2
  have hm5 : m ≤ 500 := by rw [hm]; unfold moM; split <;> omega
  rcases rn_nu (S := mM T) (T := T) hb rfl rfl hk hl hm with ⟨q1, q2, q3⟩ | ⟨-, q1, q2, q3, q4, -⟩
  · obtain ⟨p1, p2, p3, p4⟩ := q3 (q1.symm.trans hr)
    exact ⟨_, p1, by omega, by rw [q2]; exact p3, by rw [q2]; exact p4⟩
  · refine ⟨0, q3, by omega, by omega, ?_⟩
    have := (isDM_of hb q4).1
    rw [q2]
    exact Nat.le_of_lt this
theorem hq_ok (S1 : St) (h : OkP S1) (hlt : S1.1 4 < S1.1 2) : ((rnX S1 0 500).1 = true → (rnX S1 0 500).2.2.2.2 0 = nI (tn ((rnX S1 0 500).2.2.2.2 0))) ∧ ((rsX S1 (S1.2.1 10 (S1.1 4))).1 = true → OkP (rsX S1 (S1.2.1 10 (S1.1 4))).2 ∧ S1.1 4 < (rsX S1 (S1.2.1 10 (S1.1 4))).2.1 4) := by
  have h0 := id h
  obtain ⟨o2, o4, o3, ob⟩ := h0
  refine ⟨fun hr => ?_, ?_⟩
  · obtain ⟨v, hv, hv5, -⟩ := rn_ok h (kd := 3) (l := 0) (m := 500) (by omega) rfl rfl hr
    rw [hv, tnI (by omega)]
  · have hp : ∀ f, (rpX S1 f).1 = true → OkP (rpX S1 f).2 ∧ S1.1 4 < (rpX S1 f).2.1 4 := by
      intro f hr
      unfold rpX at hr ⊢
      by_cases hn : (rnX S1 1 200).1 = true
      · obtain ⟨v, hv, hv5, p1, p2⟩ := rn_ok h (kd := 0) (l := 1) (m := 200) (by omega) rfl rfl hn
        rw [if_pos hn]
        refine ⟨⟨?_, ?_, ?_, ?_⟩, ?_⟩
        · show (rnX S1 1 200).2.1 2 ≤ 60; rw [rnX_2]; exact o2
        · show (rnX S1 1 200).2.1 4 ≤ (rnX S1 1 200).2.1 2; rw [rnX_2]; exact p2
        · show 2 * ((rnX S1 1 200).2.1 3 + 1) ≤ (rnX S1 1 200).2.1 4; rw [rnX_3]; omega
        · intro i
          show (rnX S1 1 200).2.2.1 10 i = nI (tn ((rnX S1 1 200).2.2.1 10 i)) ∧ tn ((rnX S1 1 200).2.2.1 10 i) < 256
          rw [rnX_A]; exact ob i
        · show S1.1 4 < (rnX S1 1 200).2.1 4; omega
      · rw [if_neg hn] at hr; cases hr
    unfold rsX
    split
    · intro _
      refine ⟨⟨o2, hlt, ?_, ob⟩, Nat.lt_succ_self _⟩
      show 2 * S1.1 3 ≤ S1.1 4 + 1
      omega
    · split
      · intro hr
        unfold rfX at hr ⊢
        by_cases hn : (rnX S1 0 500).1 = true
        · obtain ⟨v, hv, hv5, p1, p2⟩ := rn_ok h (kd := 3) (l := 0) (m := 500) (by omega) rfl rfl hn
          rw [if_pos hn]
          refine ⟨⟨?_, ?_, ?_, ?_⟩, ?_⟩
          · show (rnX S1 0 500).2.1 2 ≤ 60; rw [rnX_2]; exact o2
          · show (rnX S1 0 500).2.1 4 ≤ (rnX S1 0 500).2.1 2; rw [rnX_2]; exact p2
          · show 2 * (rnX S1 0 500).2.1 3 ≤ (rnX S1 0 500).2.1 4; rw [rnX_3]; omega
          · intro i
            show (rnX S1 0 500).2.2.1 10 i = nI (tn ((rnX S1 0 500).2.2.1 10 i)) ∧ tn ((rnX S1 0 500).2.2.1 10 i) < 256
            rw [rnX_A]; exact ob i
          · show S1.1 4 < (rnX S1 0 500).2.1 4; omega
        · rw [if_neg hn] at hr; cases hr
      · split
        · exact hp 2
        · split
          · exact hp 0
          · split
            · exact hp 1
            · intro z; cases z
