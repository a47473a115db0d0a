/-! counting -/
def cn (P : Nat → Bool) : Nat → Nat
  | 0 => 0
  | n + 1 => if P n = true then cn P n + 1 else cn P n
theorem cn_le {P : Nat → Bool} : ∀ n, cn P n ≤ n
  | 0 => Nat.le_refl _
  | n + 1 => by
    unfold cn
    have := cn_le (P := P) n
    split <;> omega
theorem cn_mono {P Q : Nat → Bool} : ∀ n, (∀ j, j < n → P j = true → Q j = true) → cn P n ≤ cn Q n
  | 0, _ => Nat.le_refl _
  | n + 1, h => by
    have ih := cn_mono n (fun j hj => h j (by omega))
    unfold cn
    by_cases hp : P n = true
    · rw [if_pos hp, if_pos (h n (by omega) hp)]; omega
    · rw [if_neg hp]; split <;> omega
theorem cn_same {P Q : Nat → Bool} (n : Nat) (h : ∀ j, j < n → Q j = P j) : cn Q n = cn P n :=
  Nat.le_antisymm (cn_mono n (fun j hj hp => by rw [← h j hj]; exact hp)) (cn_mono n (fun j hj hp => by rw [h j hj]; exact hp))
theorem cn_strict {P Q : Nat → Bool} {b : Nat} : ∀ n, (∀ j, j < n → P j = true → Q j = true) → b < n → P b = false → Q b = true → cn P n < cn Q n
  | 0, _, hb, _, _ => absurd hb (Nat.not_lt_zero _)
  | n + 1, h, hb, hp, hq => by
    unfold cn
    by_cases e : b = n
    · subst e
      have ih := cn_mono b (fun j hj => h j (by omega))
      rw [if_neg (by rw [hp]; decide), if_pos hq]; omega
    · have ih := cn_strict n (fun j hj => h j (by omega)) (by omega) hp hq
      by_cases hpn : P n = true
      · rw [if_pos hpn, if_pos (h n (by omega) hpn)]; omega
      · rw [if_neg hpn]; split <;> omega
theorem cn_add1 {P Q : Nat → Bool} {b : Nat} (hp : P b = false) (hq : Q b = true) (h : ∀ j, j ≠ b → Q j = P j) : ∀ n, b < n → cn Q n = cn P n + 1
  | 0, hb => absurd hb (Nat.not_lt_zero _)
  | n + 1, hb => by
    unfold cn
    by_cases e : b = n
    · subst e
      rw [if_pos hq, if_neg (by rw [hp]; decide), cn_same b (fun j hj => h j (by omega))]
    · rw [cn_add1 hp hq h n (by omega), h n (fun z => e z.symm)]
      split <;> omega
theorem cn_up {P : Nat → Bool} {m : Nat} : ∀ n, m ≤ n → cn P m ≤ cn P n
  | 0, h => by rw [show m = 0 by omega]; exact Nat.le_refl _
  | n + 1, h => by
    by_cases e : m = n + 1
    · rw [e]; exact Nat.le_refl _
    · have := cn_up (P := P) (m := m) n (by omega)
      rw [show cn P (n + 1) = if P n = true then cn P n + 1 else cn P n from rfl]
      split <;> omega
theorem cn_lt {P : Nat → Bool} {f n : Nat} (h : f < n) (hp : P f = true) : cn P f < cn P n := by
  have := cn_up (P := P) (m := f + 1) n h
  rw [show cn P (f + 1) = if P f = true then cn P f + 1 else cn P f from rfl, if_pos hp] at this
  omega
theorem cn_surj {P : Nat → Bool} : ∀ n i, i < cn P n → ∃ f, f < n ∧ P f = true ∧ cn P f = i
  | 0, i, h => absurd h (Nat.not_lt_zero _)
  | n + 1, i, h => by
    by_cases e : i < cn P n
    · obtain ⟨f, h1, h2, h3⟩ := cn_surj n i e
      exact ⟨f, by omega, h2, h3⟩
    · unfold cn at h
      by_cases hp : P n = true
      · rw [if_pos hp] at h
        exact ⟨n, by omega, hp, by omega⟩
      · rw [if_neg hp] at h
        exact absurd h e
/-- the first entries of g are the numbers that P takes, in their row -/
def En (g : Nat → Int32) (P : Nat → Bool) (F : Nat) : Prop := ∀ f, f < F → P f = true → g (cn P f) = nI f
def insF (b : Int32) : Nat → (Nat → Int32) → Nat → Int32
  | 0, g => upd g 0 b
  | a + 1, g => if g a ≤ b then upd g (a + 1) b else insF b a (upd g (a + 1) (g a))
theorem insF_out (b : Int32) : ∀ (a : Nat) (g : Nat → Int32) (i : Nat), a < i → insF b a g i = g i
  | 0, g, i, h => upd_n (by omega)
  | a + 1, g, i, h => by
    rw [insF]
    split
    · exact upd_n (by omega)
    · rw [insF_out b a _ i (by omega), upd_n (by omega)]
theorem insF_spec (b : Int32) : ∀ (a : Nat) (g : Nat → Int32), ∃ p, p ≤ a ∧ (∀ i, i < p → insF b a g i = g i) ∧ (0 < p → g (p - 1) ≤ b) ∧ (∀ i, p ≤ i → i < a → ¬ g i ≤ b) ∧ insF b a g p = b ∧ (∀ i, p < i → i ≤ a → insF b a g i = g (i - 1))
  | 0, g => ⟨0, Nat.le_refl _, fun i hi => absurd hi (Nat.not_lt_zero _), fun z => absurd z (Nat.lt_irrefl _), fun i _ hi => absurd hi (Nat.not_lt_zero _), upd_s, fun i h1 h2 => absurd h2 (by omega)⟩
  | a + 1, g => by
    by_cases h : g a ≤ b
    · rw [insF, if_pos h]
      exact ⟨a + 1, Nat.le_refl _, fun i hi => upd_n (by omega), fun _ => h, fun i h1 h2 => absurd h2 (by omega), upd_s, fun i h1 h2 => absurd h2 (by omega)⟩
    · rw [insF, if_neg h]
      obtain ⟨p, hp, h1, h2, h3, h4, h5⟩ := insF_spec b a (upd g (a + 1) (g a))
      refine ⟨p, by omega, fun i hi => ?_, fun z => ?_, fun i hi1 hi2 => ?_, h4, fun i hi1 hi2 => ?_⟩
      · rw [h1 i hi, upd_n (by omega)]
      · have := h2 z
        rw [upd_n (by omega)] at this
        exact this
      · by_cases e : i = a
        · subst e; exact h
        · have := h3 i hi1 (by omega)
          rw [upd_n (by omega)] at this
          exact this
      · by_cases e : i = a + 1
        · subst e
          have hs := insF_out b a (upd g (a + 1) (g a)) (a + 1) (by omega)
          rw [hs, upd_s]; rfl
        · rw [h5 i hi1 (by omega), upd_n (by omega)]
theorem En_ins {g : Nat → Int32} {P Q : Nat → Bool} {F b : Nat} (hF : F ≤ 12) (h : En g P F) (hb : b < F) (hp : P b = false) (hq : Q b = true) (hPQ : ∀ j, j ≠ b → Q j = P j) : En (insF (nI b) (cn P F) g) Q F := by
  obtain ⟨p, p0, p1, p2, p3, p4, p5⟩ := insF_spec (nI b) (cn P F) g
  have hbF := cn_up (P := P) (m := b) F (by omega)
  have ep : p = cn P b := by
    rcases Nat.lt_trichotomy p (cn P b) with hlt | heq | hgt
    · obtain ⟨f, f1, f2, f3⟩ := cn_surj b p hlt
      have := p3 p (Nat.le_refl _) (by omega)
      rw [← f3, h f (by omega) f2] at this
      exact absurd ((nI_leI (by omega) (by omega)).mpr (by omega)) this
    · exact heq
    · obtain ⟨f, f1, f2, f3⟩ := cn_surj (P := P) F (p - 1) (by omega)
      have := p2 (by omega)
      rw [← f3, h f (by omega) f2] at this
      have hle := (nI_leI (by omega) (by omega)).mp this
      have hne : f ≠ b := fun z => by rw [z, hp] at f2; cases f2
      have := cn_lt (P := P) (f := f) (n := b) (by omega) f2
      omega
  intro f hf hQf
  rcases Nat.lt_trichotomy f b with hlt | heq | hgt
  · have hPf : P f = true := by rw [← hPQ f (by omega)]; exact hQf
    rw [cn_same (P := P) f (fun j hj => hPQ j (by omega)), p1 _ (by rw [ep]; exact cn_lt hlt hPf)]
    exact h f hf hPf
  · subst heq
    rw [cn_same (P := P) f (fun j hj => hPQ j (by omega)), ← ep]
    exact p4
  · have hPf : P f = true := by rw [← hPQ f (by omega)]; exact hQf
    have h1 := cn_up (P := P) (m := b) f (by omega)
    have h2 := cn_lt hf hPf
    rw [cn_add1 hp hq hPQ f hgt, p5 _ (by omega) (by omega)]
    exact h f hf hPf
/-! the model's choice -/
def set58 (S : St) (g : Nat → Int32) : St := (S.1, fun j => if j = 58 then g else S.2.1 j, S.2.2)
theorem set58_self (S : St) : set58 S (S.2.1 58) = S := by
  have e : (fun j => if j = 58 then S.2.1 58 else S.2.1 j) = S.2.1 := by
    funext j
    by_cases hj : j = 58
    · subst hj; rw [if_pos rfl]
    · rw [if_neg hj]
  unfold set58
  rw [e]
theorem sA_58 (S : St) (g : Nat → Int32) (i : Nat) (v : Int32) : sA (set58 S g) 58 i v = set58 S (upd g i v) := by
  have e : (fun j => if j = 58 then upd g i v else if j = 58 then g else S.2.1 j) = fun j => if j = 58 then upd g i v else S.2.1 j := by
    funext j
    by_cases hj : j = 58
    · rw [if_pos hj, if_pos hj]
    · rw [if_neg hj, if_neg hj, if_neg hj]
  show (S.1, (fun j => if j = 58 then upd g i v else if j = 58 then g else S.2.1 j), S.2.2) = _
  rw [e]
  rfl
theorem inM_set (b : Int32) (S : St) : ∀ (a : Nat) (g : Nat → Int32), inM b a (set58 S g) = set58 S (insF b a g)
  | 0, g => sA_58 S g 0 b
  | a + 1, g => by
    rw [inM, insF, show (set58 S g).2.1 58 = g from rfl]
    split
    · exact sA_58 S g (a + 1) b
    · rw [sA_58]; exact inM_set b S a _
theorem seM_set (S : St) (g : Nat → Int32) (hd day af : Int32) : ∀ F, seM (set58 S g) hd day af F = seM S hd day af F
  | 0 => rfl
  | F + 1 => by
    unfold seM
    rw [seM_set S g hd day af F, show drM (set58 S g) F = drM S F from rfl, show foM (set58 S g) F = foM S F from rfl, show doM (set58 S g) F = doM S F from rfl]
def afI (A : Nat) : Int32 := nI A - 1
theorem afI_le {A k : Nat} (hA : A < 2 ^ 30) (hk : k < 2 ^ 30) : nI k ≤ afI A ↔ k < A := by
  rw [Int32.le_iff_toInt_le, nI_toInt (by omega)]
  have : (afI A).toInt = (A : Int) - 1 := by
    have := pk_sub_toInt (a := A) (b := 1) hA (by decide)
    exact this
  rw [this]
  omega
def elM (S : St) (hd day : Int32) (f : Nat) : Bool := decide (nI (drM S f) ≤ day ∧ foM S f = false ∧ doM S f = hd)
def kyM (S : St) (f : Nat) : Nat := 12 * drM S f + f
def PA (S : St) (hd day : Int32) (A : Nat) (f : Nat) : Bool := elM S hd day f && decide (kyM S f < A)
theorem PA_iff {S : St} {hd day : Int32} {A f : Nat} : PA S hd day A f = true ↔ elM S hd day f = true ∧ kyM S f < A := by
  simp only [PA, Bool.and_eq_true, decide_eq_true_eq]
theorem se_spec {S : St} {hd day : Int32} {A : Nat} (hA : A < 2 ^ 30) : ∀ F, F ≤ 12 → (∀ f, f < F → drM S f ≤ 700) →
    (seM S hd day (afI A) F = (-9, nI 0) ∧ ∀ f, f < F → elM S hd day f = true → kyM S f < A) ∨
    ∃ f, f < F ∧ seM S hd day (afI A) F = (nI f, nI (kyM S f)) ∧ elM S hd day f = true ∧ A ≤ kyM S f ∧ ∀ j, j < F → elM S hd day j = true → A ≤ kyM S j → kyM S f ≤ kyM S j
  | 0, _, _ => Or.inl ⟨rfl, fun f hf => absurd hf (Nat.not_lt_zero _)⟩
  | F + 1, h12, hd7 => by
    have hdF := hd7 F (by omega)
    have ih := se_spec (hd := hd) (day := day) hA F (by omega) (fun f hf => hd7 f (by omega))
    have hkF : kyM S F = 12 * drM S F + F := rfl
    have hle := afI_le (A := A) (k := kyM S F) hA (by omega)
    by_cases he : elM S hd day F = true
    · have he' := of_decide_eq_true he
      by_cases hk : A ≤ kyM S F
      · have hn : ¬ nI (12 * drM S F + F) ≤ afI A := fun z => by have := hle.mp z; omega
        rcases ih with ⟨e, hno⟩ | ⟨f, hf, e, ef, Af, hmin⟩
        · refine Or.inr ⟨F, by omega, ?_, he, hk, fun j hj ej Aj => ?_⟩
          · unfold seM
            rw [if_pos ⟨hn, he'.1, he'.2.1, he'.2.2, Or.inl (by rw [e])⟩]; rfl
          · by_cases z : j = F
            · rw [z]; exact Nat.le_refl _
            · have := hno j (by omega) ej; omega
        · have hdf := hd7 f (by omega)
          have hkf : kyM S f = 12 * drM S f + f := rfl
          by_cases hlt : kyM S F < kyM S f
          · refine Or.inr ⟨F, by omega, ?_, he, hk, fun j hj ej Aj => ?_⟩
            · unfold seM
              rw [if_pos ⟨hn, he'.1, he'.2.1, he'.2.2, Or.inr (by rw [e]; exact fun z => by have := (nI_leI (by omega) (by omega)).mp z; omega)⟩]; rfl
            · by_cases z : j = F
              · rw [z]; exact Nat.le_refl _
              · have := hmin j (by omega) ej Aj; omega
          · refine Or.inr ⟨f, by omega, ?_, ef, Af, fun j hj ej Aj => ?_⟩
            · unfold seM
              rw [if_neg, e]
              rintro ⟨-, -, -, -, z | z⟩
              · rw [e] at z; exact nI_n9 (by omega) z
              · rw [e] at z; exact z ((nI_leI (by omega) (by omega)).mpr (by omega))
            · by_cases z : j = F
              · rw [z]; omega
              · exact hmin j (by omega) ej Aj
      · have hs : seM S hd day (afI A) (F + 1) = seM S hd day (afI A) F := by
          rw [seM, if_neg]
          rintro ⟨z, -⟩
          exact z (hle.mpr (by omega))
        rw [hs]
        rcases ih with ⟨e, hno⟩ | ⟨f, hf, e, ef, Af, hmin⟩
        · refine Or.inl ⟨e, fun j hj ej => ?_⟩
          by_cases z : j = F
          · rw [z]; omega
          · exact hno j (by omega) ej
        · refine Or.inr ⟨f, by omega, e, ef, Af, fun j hj ej Aj => ?_⟩
          by_cases z : j = F
          · rw [z] at Aj; omega
          · exact hmin j (by omega) ej Aj
    · have hs : seM S hd day (afI A) (F + 1) = seM S hd day (afI A) F := by
        rw [seM, if_neg]
        rintro ⟨-, z1, z2, z3, -⟩
        exact he (decide_eq_true ⟨z1, z2, z3⟩)
      rw [hs]
      rcases ih with ⟨e, hno⟩ | ⟨f, hf, e, ef, Af, hmin⟩
      · refine Or.inl ⟨e, fun j hj ej => ?_⟩
        by_cases z : j = F
        · rw [z] at ej; exact absurd ej he
        · exact hno j (by omega) ej
      · refine Or.inr ⟨f, by omega, e, ef, Af, fun j hj ej Aj => ?_⟩
        by_cases z : j = F
        · rw [z] at ej; exact absurd ej he
        · exact hmin j (by omega) ej Aj
theorem ro_spec {S : St} {hd day : Int32} (h12 : S.1 18 ≤ 12) (hd7 : ∀ f, f < S.1 18 → drM S f ≤ 700) : ∀ (k j A : Nat) (g : Nat → Int32), A < 2 ^ 30 → cn (PA S hd day A) (S.1 18) ≤ j → (cn (PA S hd day A) (S.1 18) < j → ∀ f, f < S.1 18 → elM S hd day f = true → kyM S f < A) → En g (PA S hd day A) (S.1 18) →
    ∃ A' g', roM hd day k (set58 S g) (cn (PA S hd day A) (S.1 18)) (afI A) = (set58 S g', cn (PA S hd day A') (S.1 18)) ∧ En g' (PA S hd day A') (S.1 18) ∧ cn (PA S hd day A') (S.1 18) ≤ j + k ∧ (cn (PA S hd day A') (S.1 18) < j + k → ∀ f, f < S.1 18 → elM S hd day f = true → kyM S f < A')
  | 0, j, A, g, hA, hj, hno, hg => ⟨A, g, rfl, hg, hj, hno⟩
  | k + 1, j, A, g, hA, hj, hno, hg => by
    rw [roM, seM_set, show (set58 S g).1 18 = S.1 18 from rfl]
    rcases se_spec (hd := hd) (day := day) hA (S.1 18) h12 hd7 with ⟨e, hn⟩ | ⟨f, hf, e, ef, Af, hmin⟩
    · rw [e, if_pos rfl]
      obtain ⟨A', g', r1, r2, r3, r4⟩ := ro_spec h12 hd7 k (j + 1) A g hA (by omega) (fun _ => hn) hg
      exact ⟨A', g', r1, r2, by omega, fun z => r4 (by omega)⟩
    · have hdf := hd7 f hf
      have hkf : kyM S f = 12 * drM S f + f := rfl
      have ej : cn (PA S hd day A) (S.1 18) = j := by
        by_cases z : cn (PA S hd day A) (S.1 18) < j
        · have := hno z f hf ef; omega
        · omega
      have hp : PA S hd day A f = false := by
        cases z : PA S hd day A f with
        | false => rfl
        | true => have := (PA_iff.mp z).2; omega
      have hq : PA S hd day (kyM S f + 1) f = true := PA_iff.mpr ⟨ef, by omega⟩
      rw [e, if_neg (fun z => nI_n9 (by omega) z), inM_set]
      have hcn : cn (PA S hd day (kyM S f + 1)) (S.1 18) = cn (PA S hd day A) (S.1 18) + 1 ∧ En (insF (nI f) (cn (PA S hd day A) (S.1 18)) g) (PA S hd day (kyM S f + 1)) (S.1 18) := by
        have hPQ : ∀ i, i < S.1 18 → i ≠ f → PA S hd day (kyM S f + 1) i = PA S hd day A i := by
          intro i hi hne
          cases z : PA S hd day A i with
          | true =>
            have := PA_iff.mp z
            exact PA_iff.mpr ⟨this.1, by omega⟩
          | false =>
            cases z2 : PA S hd day (kyM S f + 1) i with
            | false => rfl
            | true =>
              have h2 := PA_iff.mp z2
              have hge : A ≤ kyM S i := by
                by_cases y : A ≤ kyM S i
                · exact y
                · rw [PA_iff.mpr ⟨h2.1, by omega⟩] at z; cases z
              have h3 := hmin i hi h2.1 hge
              have hki : kyM S i = 12 * drM S i + i := rfl
              omega
        have hQ : ∃ Q : Nat → Bool, (∀ i, i < S.1 18 → Q i = PA S hd day (kyM S f + 1) i) ∧ Q f = true ∧ ∀ i, i ≠ f → Q i = PA S hd day A i :=
          ⟨fun i => if i = f then true else PA S hd day A i, fun i hi => by
            show (if i = f then true else PA S hd day A i) = _
            by_cases y : i = f
            · rw [if_pos y, y, hq]
            · rw [if_neg y, hPQ i hi y], if_pos rfl, fun i hi => if_neg hi⟩
        obtain ⟨Q, q1, q2, q3⟩ := hQ
        have c1 : ∀ m, m ≤ S.1 18 → cn (PA S hd day (kyM S f + 1)) m = cn Q m := fun m hm => cn_same m (fun i hi => (q1 i (by omega)).symm)
        refine ⟨by rw [c1 _ (Nat.le_refl _), cn_add1 hp q2 q3 _ hf], fun i hi hPi => ?_⟩
        rw [c1 i (by omega)]
        exact En_ins h12 hg hf hp q2 q3 i hi (by rw [q1 i hi]; exact hPi)
      have hst : nI (kyM S f) = afI (kyM S f + 1) := (nI_pred _).symm
      rw [hst, ← hcn.1]
      obtain ⟨A', g', r1, r2, r3, r4⟩ := ro_spec h12 hd7 k (j + 1) (kyM S f + 1) _ (by omega) (by rw [hcn.1]; omega) (fun z => by rw [hcn.1] at z; omega) hcn.2
      exact ⟨A', g', r1, r2, by omega, fun z => r4 (by omega)⟩
/-! the class's choice -/
theorem wa_cn {S : St} {hd day : Int32} {w : Nat → Int32} {F i : Nat} (hF : F ≤ 12) (hd7 : ∀ f, f < F → drM S f ≤ 700) (hw : ∀ f, f < F → w f = if elM S hd day f = true then nI (drM S f) else -9) (hi : i < F) (ei : elM S hd day i = true) : ∀ n, n ≤ F → waL w i n = cn (PA S hd day (kyM S i)) n
  | 0, _ => rfl
  | n + 1, hn => by
    have h1 := hd7 i hi
    have h2 := hd7 n (by omega)
    have ki : kyM S i = 12 * drM S i + i := rfl
    have kn : kyM S n = 12 * drM S n + n := rfl
    have hwi := hw i hi
    rw [if_pos ei] at hwi
    have hwn := hw n (by omega)
    unfold waL cn
    rw [wa_cn hF hd7 hw hi ei n (by omega)]
    by_cases en : elM S hd day n = true
    · rw [if_pos en] at hwn
      by_cases hlt : kyM S n < kyM S i
      · rw [if_pos (PA_iff.mpr ⟨en, hlt⟩), if_pos]
        rw [hwi, hwn]
        refine ⟨nI_n9 (by omega), ?_⟩
        by_cases z : drM S n < drM S i
        · exact Or.inl (fun y => by have := (nI_leI (by omega) (by omega)).mp y; omega)
        · exact Or.inr ⟨congrArg nI (by omega), by omega⟩
      · rw [if_neg (fun z => hlt (PA_iff.mp z).2), if_neg]
        rw [hwi, hwn]
        rintro ⟨-, z | ⟨z1, z2⟩⟩
        · exact z ((nI_leI (by omega) (by omega)).mpr (by omega))
        · have := (nI_eq (by omega) (by omega)).mp z1; omega
    · rw [if_neg en] at hwn
      rw [if_neg (fun z => en (PA_iff.mp z).1), if_neg (fun z => z.1 hwn)]
theorem as_spec {S : St} {k : Nat} {P : Nat → Bool} (h11 : S.1 11 = 0) : ∀ n, (∀ f, f < n → (P f = true ↔ (¬ S.2.1 29 f = -9 ∧ waL (S.2.1 29) f (S.1 7) < k))) → (asX S k n).1 11 = cn P n ∧ ∀ f, f < n → P f = true → (asX S k n).2.1 40 (cn P f) = nI f ∧ (asX S k n).2.1 41 (cn P f) = S.2.1 24 f ∧ (asX S k n).2.1 42 (cn P f) = S.2.1 25 f
  | 0, _ => ⟨h11, fun f hf => absurd hf (Nat.not_lt_zero _)⟩
  | n + 1, hP => by
    obtain ⟨ih1, ih2⟩ := as_spec h11 n (fun f hf => hP f (by omega))
    by_cases hp : P n = true
    · have := (hP n (by omega)).mp hp
      rw [asX_t this.1 this.2]
      refine ⟨?_, fun f hf hPf => ?_⟩
      · show (asX S k n).1 11 + 1 = cn P (n + 1)
        rw [cn, if_pos hp, ih1]
      · show upd ((asX S k n).2.1 40) ((asX S k n).1 11) (nI n) (cn P f) = nI f ∧ upd ((asX S k n).2.1 41) ((asX S k n).1 11) (S.2.1 24 n) (cn P f) = S.2.1 24 f ∧ upd ((asX S k n).2.1 42) ((asX S k n).1 11) (S.2.1 25 n) (cn P f) = S.2.1 25 f
        rw [ih1]
        by_cases e : f = n
        · subst e
          rw [upd_s, upd_s, upd_s]; exact ⟨rfl, rfl, rfl⟩
        · have := cn_lt (P := P) (f := f) (n := n) (by omega) hPf
          rw [upd_n (show ¬ cn P f = cn P n by omega), upd_n (show ¬ cn P f = cn P n by omega), upd_n (show ¬ cn P f = cn P n by omega)]
          exact ih2 f (by omega) hPf
    · rw [asX_f (fun z => hp ((hP n (by omega)).mpr z))]
      refine ⟨by rw [cn, if_neg hp, ih1], fun f hf hPf => ?_⟩
      by_cases e : f = n
      · subst e; exact absurd hPf hp
      · exact ih2 f (by omega) hPf
