def NR (j : Nat) : Bool := decide (j < 11) || (decide (12 < j) && decide (j < 23)) || decide (24 < j)
def AR (j : Nat) : Bool := decide (j < 29) || (decide (29 < j) && decide (j < 40)) || (decide (45 < j) && decide (j < 57)) || decide (59 < j)
theorem NR_of {j : Nat} (h : NR j = true) : j < 11 ∨ (12 < j ∧ j < 23) ∨ 24 < j := by
  simp only [NR, Bool.or_eq_true, Bool.and_eq_true, decide_eq_true_eq] at h
  omega
theorem AR_of {j : Nat} (h : AR j = true) : j < 29 ∨ (29 < j ∧ j < 40) ∨ (45 < j ∧ j < 57) ∨ 59 < j := by
  simp only [AR, Bool.or_eq_true, Bool.and_eq_true, decide_eq_true_eq] at h
  omega
theorem rel_round {S T : St} (h : Rel S) (N : ∀ j, NR j = true → T.1 j = S.1 j) (A : ∀ j, AR j = true → T.2.1 j = S.2.1 j) (cL : T.2.2 = S.2.2) (hn : T.1 23 = T.1 11 ∧ T.1 11 ≤ 6 ∧ T.1 24 = T.1 12) (hT : rT T) : Rel T := by
  obtain ⟨hN, hL, hD, hI, hB, hF, hV, hS, hW, hK, hQ, -⟩ := h
  obtain ⟨n13, n14, n0, n22, n15, n2, n16, n6, n18, n7, n19, n8, n20, n9, n21, n10, n23, n11, n24⟩ := hN
  have O : ∀ i c, ofM T i c = ofM S i c := fun i c => by unfold ofM; rw [A 52 rfl]
  have SW : ∀ i d, swX T i d = swX S i d := fun i d => by unfold swX; rw [A 36 rfl, A 37 rfl, A 27 rfl, N 10 rfl]
  refine ⟨⟨by rw [N 13 rfl]; exact n13, by rw [N 14 rfl, N 0 rfl]; exact n14, by rw [N 0 rfl]; exact n0, by rw [N 22 rfl, N 1 rfl]; exact n22, by rw [N 15 rfl, N 2 rfl]; exact n15, by rw [N 2 rfl]; exact n2, by rw [N 16 rfl, N 6 rfl]; exact n16, by rw [N 6 rfl]; exact n6, by rw [N 18 rfl, N 7 rfl]; exact n18, by rw [N 7 rfl]; exact n7, by rw [N 19 rfl, N 8 rfl]; exact n19, by rw [N 8 rfl]; exact n8, by rw [N 20 rfl, N 9 rfl]; exact n20, by rw [N 9 rfl]; exact n9, by rw [N 21 rfl, N 10 rfl]; exact n21, by rw [N 10 rfl]; exact n10, hn.1, hn.2.1, hn.2.2⟩, ?_, ?_, ?_, ?_, ?_, ?_, ?_, ?_, ?_, ?_, hT⟩
  · unfold rL; rw [cL]; exact hL
  · unfold rD; rw [A 46 rfl, A 10 rfl]; exact hD
  · unfold rI; rw [A 56 rfl, A 9 rfl]; exact hI
  · unfold rB; rw [A 47 rfl, A 14 rfl, A 48 rfl, A 15 rfl, N 6 rfl, A 49 rfl, A 16 rfl, A 50 rfl, A 17 rfl, A 51 rfl, A 18 rfl]; exact hB
  · intro j; simp only [O]; rw [A 19 rfl, A 20 rfl, A 21 rfl, A 22 rfl, A 23 rfl, A 24 rfl, A 25 rfl, A 26 rfl, A 27 rfl, A 28 rfl]; exact hF j
  · unfold rV; rw [A 19 rfl, A 20 rfl, A 22 rfl, A 24 rfl, A 25 rfl, A 26 rfl, A 27 rfl, N 7 rfl, N 0 rfl]; exact hV
  · intro j hj; rw [N 7 rfl] at hj; rw [O, SW, N 0 rfl]; exact hS j hj
  · unfold rW; rw [A 55 rfl, A 36 rfl, A 37 rfl, A 38 rfl, A 39 rfl, N 10 rfl, N 0 rfl, N 7 rfl]; exact hW
  · unfold rK; rw [A 53 rfl, A 30 rfl, A 31 rfl, A 32 rfl, A 33 rfl]; exact hK
  · unfold rQ; rw [A 54 rfl, A 34 rfl, A 35 rfl, N 9 rfl, N 7 rfl]; exact hQ
theorem mod_of {S V : St} (N : ∀ j, NR j = true → V.1 j = S.1 j) (A : ∀ j, AR j = true → V.2.1 j = S.2.1 j) : ofM V = ofM S := by
  funext i c; unfold ofM; rw [A 52 rfl]
theorem mod_dr {S V : St} (N : ∀ j, NR j = true → V.1 j = S.1 j) (A : ∀ j, AR j = true → V.2.1 j = S.2.1 j) : drM V = drM S := by
  funext f; unfold drM duM; rw [mod_of N A, N 16 rfl, A 47 rfl, A 48 rfl, A 49 rfl, A 50 rfl, A 51 rfl]
theorem mod_fo {S V : St} (N : ∀ j, NR j = true → V.1 j = S.1 j) (A : ∀ j, AR j = true → V.2.1 j = S.2.1 j) : foM V = foM S := by
  funext f; unfold foM knM; rw [mod_of N A, N 14 rfl, N 19 rfl, A 53 rfl]
theorem mod_do {S V : St} (N : ∀ j, NR j = true → V.1 j = S.1 j) (A : ∀ j, AR j = true → V.2.1 j = S.2.1 j) : doM V = doM S := by
  funext f; unfold doM neM faM; rw [mod_of N A, N 18 rfl, A 56 rfl]
theorem mod_PA {S V : St} (N : ∀ j, NR j = true → V.1 j = S.1 j) (A : ∀ j, AR j = true → V.2.1 j = S.2.1 j) : PA V = PA S ∧ elM V = elM S ∧ kyM V = kyM S := by
  have e : elM V = elM S := by funext hd day f; unfold elM; rw [mod_dr N A, mod_fo N A, mod_do N A]
  have k : kyM V = kyM S := by funext f; unfold kyM; rw [mod_dr N A]
  refine ⟨?_, e, k⟩
  funext hd day a f; unfold PA; rw [e, k]
theorem mod_mok {S V : St} (h : MOK S) (N : ∀ j, NR j = true → V.1 j = S.1 j) (A : ∀ j, AR j = true → V.2.1 j = S.2.1 j) : MOK V := by
  unfold MOK BmOK spM Of9 HdM at h ⊢
  rw [mod_of N A, N 18 rfl, N 19 rfl, N 16 rfl, A 47 rfl, A 48 rfl, A 49 rfl, A 50 rfl, A 51 rfl]
  exact h
theorem wf_29 {S : St} {hd day : Int32} : ∀ (n f : Nat), f < n → (wfX S hd day n).2.1 29 f = wtX S f (tn (swX S f (nI (S.1 0)))) hd day
  | 0, f, h => absurd h (Nat.not_lt_zero _)
  | n + 1, f, h => by
    show upd ((wfX S hd day n).2.1 29) n (wtX S n (tn (swX S n (nI (S.1 0)))) hd day) f = _
    by_cases e : f = n
    · subst e; rw [upd_s]
    · rw [upd_n e]; exact wf_29 n f (by omega)
theorem wf_L {S : St} {hd day : Int32} : ∀ {n : Nat}, (wfX S hd day n).2.2 = S.2.2
  | 0 => rfl
  | n + 1 => wf_L (n := n)
theorem as_L {S : St} {k : Nat} : ∀ {n : Nat}, (asX S k n).2.2 = S.2.2
  | 0 => rfl
  | n + 1 => by
    rw [asX]
    split
    · exact as_L (n := n)
    · exact as_L (n := n)
theorem Rel.wt {S : St} (h : Rel S) {f : Nat} (hf : f < S.1 7) (hd day : Int32) : wtX S f (tn (swX S f (nI (S.1 0)))) hd day = if elM S hd day f = true then nI (drM S f) else -9 := by
  have hF := h.2.2.2.2.2.1 f
  have hS := h.2.2.2.2.2.2.2.1 f hf
  have e : drM S f = duX S (S.2.1 20 f) (tn (swX S f (nI (S.1 0)))) := by
    unfold drM
    rw [hF.2.1, hS, h.du]
  unfold wtX elM
  rw [h.do_ hf, h.fo, e]
  by_cases c : doX S f = hd ∧ foX S f = false ∧ nI (duX S (S.2.1 20 f) (tn (swX S f (nI (S.1 0))))) ≤ day
  · rw [if_pos c, if_pos (decide_eq_true ⟨c.2.2, c.2.1, c.1⟩)]
  · rw [if_neg c, if_neg]
    intro z
    have z' := of_decide_eq_true z
    exact c ⟨z'.2.2, z'.2.1, z'.1⟩
/-! who is chosen, told both ways -/
theorem chosen {S : St} {hd day : Int32} {w : Nat → Int32} {F k a : Nat} (hF : F ≤ 12) (hd7 : ∀ f, f < F → drM S f ≤ 700) (hw : ∀ f, f < F → w f = if elM S hd day f = true then nI (drM S f) else -9) (hle : cn (PA S hd day a) F ≤ k) (hno : cn (PA S hd day a) F < k → ∀ f, f < F → elM S hd day f = true → kyM S f < a) {f : Nat} (hf : f < F) : PA S hd day a f = true ↔ (¬ w f = -9 ∧ waL w f F < k) := by
  have h7 := hd7 f hf
  have hwf := hw f hf
  by_cases e : elM S hd day f = true
  · rw [if_pos e] at hwf
    rw [hwf, wa_cn hF hd7 hw hf e F (Nat.le_refl _), PA_iff]
    constructor
    · rintro ⟨-, ha⟩
      refine ⟨nI_n9 (by omega), ?_⟩
      have := cn_strict (P := PA S hd day (kyM S f)) (Q := PA S hd day a) (b := f) F (fun j hj hp => by
        have := PA_iff.mp hp
        exact PA_iff.mpr ⟨this.1, by omega⟩) hf (by
        cases z : PA S hd day (kyM S f) f with
        | false => rfl
        | true => exact absurd (PA_iff.mp z).2 (Nat.lt_irrefl _)) (PA_iff.mpr ⟨e, ha⟩)
      omega
    · rintro ⟨-, hlt⟩
      refine ⟨e, ?_⟩
      by_cases ha : kyM S f < a
      · exact ha
      · exfalso
        by_cases z : cn (PA S hd day a) F < k
        · exact ha (hno z f hf e)
        · have := cn_mono (P := PA S hd day a) (Q := PA S hd day (kyM S f)) F (fun j hj hp => by
            have := PA_iff.mp hp
            exact PA_iff.mpr ⟨this.1, by omega⟩)
          omega
  · rw [if_neg e] at hwf
    exact ⟨fun z => absurd (PA_iff.mp z).1 e, fun z => absurd hwf z.1⟩
/-! ways along the same stops -/
theorem pw_congr {px py px' py' : Nat → Nat} : ∀ (p : List Nat) (s : Nat × Nat × Nat), (∀ x, x ∈ p → px x = px' x ∧ py x = py' x) → p.foldl (pst px py) s = p.foldl (pst px' py') s
  | [], s, _ => rfl
  | x :: p, s, h => by
    have hx := h x (List.mem_cons_self ..)
    rw [List.foldl_cons, List.foldl_cons, show pst px py s x = pst px' py' s x by unfold pst; rw [hx.1, hx.2]]
    exact pw_congr p _ (fun y hy => h y (List.mem_cons_of_mem _ hy))
theorem wyl_congr {px py px' py' : Nat → Nat} {p : List Nat} (h : ∀ x, x ∈ p → px x = px' x ∧ py x = py' x) : wyl px py p = wyl px' py' p := by
  unfold wyl pw
  rw [pw_congr p _ h]
theorem fo_congr {wy wy' : List Nat → Nat} : ∀ (l : List (List Nat)) (s : Nat × Option (List Nat)), (∀ p, p ∈ l → wy p = wy' p) → fo wy l s = fo wy' l s
  | [], s, _ => rfl
  | p :: l, s, h => by
    rw [fo, fo, h p (List.mem_cons_self ..)]
    exact fo_congr l _ (fun q hq => h q (List.mem_cons_of_mem _ hq))
theorem fo_start {wy : List Nat → Nat} {p : List Nat} {l : List (List Nat)} {a b : Nat} (ha : wy p < a) (hb : wy p < b) : fo wy (p :: l) (a, none) = fo wy (p :: l) (b, none) := by
  rw [fo, fo, if_pos ha, if_pos hb]
theorem fo_got {wy : List Nat → Nat} {p : List Nat} {l : List (List Nat)} {a : Nat} (ha : wy p < a) : ∃ q, q ∈ p :: l ∧ (fo wy (p :: l) (a, none)).2 = some q := by
  rw [fo, if_pos ha]
  obtain ⟨q, h1, h2⟩ := fo_mem (wy := wy) l (wy p, some p) ⟨p, rfl⟩
  refine ⟨q, ?_, h2⟩
  rcases h1 with h1 | h1
  · exact List.mem_cons_of_mem _ h1
  · cases h1; exact List.mem_cons_self ..
theorem okl_mem {n : Nat} {l : List (List Nat)} {p : List Nat} (h : okl n l = true) (hp : p ∈ l) : ∀ x, x ∈ p → x < n := by
  unfold okl at h
  rw [List.all_eq_true] at h
  have := h p hp
  rw [Bool.and_eq_true, List.all_eq_true] at this
  exact fun x hx => of_decide_eq_true (this.2 x hx)
theorem tiM_59 {S : St} : ∀ (n i : Nat), i < n → (tiM S n).2.1 59 i = nI i
  | 0, i, h => absurd h (Nat.not_lt_zero _)
  | n + 1, i, h => by
    show upd ((tiM S n).2.1 59) n (nI n) i = _
    by_cases e : i = n
    · subst e; rw [upd_s]
    · rw [upd_n e]; exact tiM_59 n i (by omega)
theorem tiM_A {S : St} {j : Nat} (h : j ≠ 59) : ∀ {n : Nat}, (tiM S n).2.1 j = S.2.1 j
  | 0 => rfl
  | n + 1 => by
    show (sA (tiM S n) 59 n _).2.1 j = S.2.1 j
    rw [sA_A, if_neg h]
    exact tiM_A h
theorem tiM_L {S : St} : ∀ {n : Nat}, (tiM S n).2.2 = S.2.2
  | 0 => rfl
  | n + 1 => tiM_L (n := n)
theorem lf_range {n i : Nat} (h : i < n) : lf (List.range n) i = i := by
  unfold lf
  rw [List.getD_eq_getElem?_getD, List.getElem?_range h]; rfl
/-- the stops of the model's try: numbers of flues, and where they stand -/
def StM (S : St) (n : Nat) : Prop := ∀ j, j < n → S.2.1 58 j = nI (tn (S.2.1 58 j)) ∧ tn (S.2.1 58 j) < 12 ∧ ofM S (tn (S.2.1 58 j)) 5 = nI (tn (ofM S (tn (S.2.1 58 j)) 5)) ∧ tn (ofM S (tn (S.2.1 58 j)) 5) ≤ 20 ∧ ofM S (tn (S.2.1 58 j)) 6 = nI (tn (ofM S (tn (S.2.1 58 j)) 6)) ∧ tn (ofM S (tn (S.2.1 58 j)) 6) ≤ 20
theorem tc_of {S T : St} {n : Nat} {p : List Nat} (hn : n ≤ 6) (h : StM S n) (hf : FrM S T) (ho : okl n (exl n n []) = true) (hp : p ∈ exl n n []) (ha : AG (T.2.1 59) (lf p) n) : TcOK T n := by
  refine ⟨hn, fun k hk => ?_, ?_⟩
  · have := ha k hk
    rw [this.1, tnI (by omega)]
    exact ⟨rfl, (okl_of ho hp).2 k hk⟩
  · unfold StM ofM at h
    unfold ofM
    rw [hf.2.1 58 (by decide) (by decide), hf.2.1 52 (by decide) (by decide)]
    exact h
def PPr (T : St) (n : Nat) (S1 : St) : Prop := FrM T S1 ∧ S1.1 24 ≤ 100000 ∧ ∃ p, p ∈ exl n n [] ∧ AG (S1.2.1 59) (lf p) n
theorem pp_step {T : St} {n : Nat} (hn : n ≤ 6) (h : StM T n) : ∀ S1, PPr T n S1 → TcOK S1 n ∧ S1.1 24 ≤ 100000 ∧ PPr T n (goN (upM S1 n) n).2 := by
  intro S1 hp
  obtain ⟨hf, h24, p, hp, ha⟩ := hp
  obtain ⟨hc, ho, -, -⟩ := pl_all hn
  refine ⟨tc_of hn h hf ho hp ha, h24, ?_⟩
  have hu := up_fr S1 n
  have hg := go_br (S := upM S1 n) (p := p) (by rw [hu.2.1]; exact ha)
  rcases chn_mem hc hp with z | ⟨q, hq, z⟩
  · rw [hg.1 z]
    exact ⟨hf.trans hu.1, Nat.le_trans hu.2.2 h24, p, hp, by rw [hu.2.1]; exact ha⟩
  · obtain ⟨g1, g2, g3⟩ := hg.2 q z
    exact ⟨(hf.trans hu.1).trans g3.frM, by rw [g3.1]; exact Nat.le_trans hu.2.2 h24, q, hq, g2⟩

/-! the two searches, over the same stops -/
theorem two_ways {S V : St} {n : Nat} {hd day : Int32} {k : Nat} {g P : _} (h : Rel S) (hn : n ≤ 6) (N : ∀ j, NR j = true → V.1 j = S.1 j) (A : ∀ j, AR j = true → V.2.1 j = S.2.1 j) (cL : V.2.2 = S.2.2) (h43 : V.2.1 43 = S.2.1 43) (h11 : V.1 11 = n) (hro : roM hd day k V 0 (-1) = (set58 V g, n)) (hcn : cn P (S.1 7) = n) (hg : En g P (S.1 7)) (h4 : ∀ f, f < S.1 7 → P f = true → V.2.1 40 (cn P f) = nI f ∧ V.2.1 41 (cn P f) = S.2.1 24 f ∧ V.2.1 42 (cn P f) = S.2.1 25 f) (hX : FX n V (fo (wyl (tN (V.2.1 41)) (tN (V.2.1 42))) (exl n n []) (1000000, none))) : ∃ (PP : St → Prop) (R : St), PP (sN (sN (tiM (roM hd day k V 0 (-1)).1 (roM hd day k V 0 (-1)).2) 23 (roM hd day k V 0 (-1)).2) 24 100000) ∧ (∀ S1, PP S1 → TcOK S1 (roM hd day k V 0 (-1)).2 ∧ S1.1 24 ≤ 100000 ∧ PP (goN (upM S1 (roM hd day k V 0 (-1)).2) (roM hd day k V 0 (-1)).2).2) ∧ mwM (roM hd day k V 0 (-1)).2 721 (sN (sN (tiM (roM hd day k V 0 (-1)).1 (roM hd day k V 0 (-1)).2) 23 (roM hd day k V 0 (-1)).2) 24 100000) = some R ∧ Rel R := by
  rw [hro]
  dsimp only
  have h0 := id h
  obtain ⟨hN, hL, hD, hI, hB, hF, hV, hS, hW, hK, hQ, hT⟩ := h0
  obtain ⟨n13, n14, n0, n22, n15, n2, n16, n6, n18, n7, n19, n8, n20, n9, n21, n10, n23, n11, n24⟩ := id hN
  have tN_ : ∀ j, j ≠ 23 → j ≠ 24 → (sN (sN (tiM (set58 V g) n) 23 n) 24 100000).1 j = V.1 j := by
    intro j h1 h2
    rw [sN_N, if_neg h2, sN_N, if_neg h1, tiM_N]; rfl
  have tA_ : ∀ j, j ≠ 58 → j ≠ 59 → (sN (sN (tiM (set58 V g) n) 23 n) 24 100000).2.1 j = V.2.1 j := by
    intro j h1 h2
    rw [sN_A, sN_A, tiM_A h2]
    exact if_neg h1
  have t58 : (sN (sN (tiM (set58 V g) n) 23 n) 24 100000).2.1 58 = g := by
    rw [sN_A, sN_A, tiM_A (by decide)]
    rfl
  have t59 : ∀ i, i < n → (sN (sN (tiM (set58 V g) n) 23 n) 24 100000).2.1 59 i = nI i := by
    intro i hi
    rw [sN_A, sN_A]; exact tiM_59 n i hi
  have tL : (sN (sN (tiM (set58 V g) n) 23 n) 24 100000).2.2 = V.2.2 := by
    show (tiM (set58 V g) n).2.2 = V.2.2
    rw [tiM_L]; rfl
  have t23 : (sN (sN (tiM (set58 V g) n) 23 n) 24 100000).1 23 = n := rfl
  have t24 : (sN (sN (tiM (set58 V g) n) 23 n) 24 100000).1 24 = 100000 := rfl
  generalize sN (sN (tiM (set58 V g) n) 23 n) 24 100000 = T at tN_ tA_ t58 t59 tL t23 t24
  have tO : ofM T = ofM S := by
    funext i c; unfold ofM; rw [tA_ 52 (by decide) (by decide), A 52 rfl]
  have hst : ∀ j, j < n → ∃ f, f < S.1 7 ∧ g j = nI f ∧ V.2.1 40 j = nI f ∧ V.2.1 41 j = S.2.1 24 f ∧ V.2.1 42 j = S.2.1 25 f := by
    intro j hj
    obtain ⟨f, hf, hp, he⟩ := cn_surj (P := P) (S.1 7) j (by omega)
    have := h4 f hf hp
    rw [he] at this
    refine ⟨f, hf, ?_, this⟩
    rw [← he]; exact hg f hf hp
  have hStM : StM T n := by
    intro j hj
    obtain ⟨f, hf, e1, -⟩ := hst j hj
    have hv := hV f hf
    have ho := hF f
    rw [t58, e1, tnI (by omega), tO, ho.2.2.2.2.2.1, ho.2.2.2.2.2.2.1]
    exact ⟨rfl, by omega, hv.2.2.2.1.1, hv.2.2.2.1.2, hv.2.2.2.2.1.1, hv.2.2.2.2.1.2⟩
  have hpx : ∀ j, j < n → mpx T j = tN (V.2.1 41) j ∧ mpy T j = tN (V.2.1 42) j := by
    intro j hj
    obtain ⟨f, hf, e1, -, e2, e3⟩ := hst j hj
    have ho := hF f
    unfold mpx mpy tN
    rw [t58, e1, tnI (by omega), tO, ho.2.2.2.2.2.1, ho.2.2.2.2.2.2.1, e2, e3]
    exact ⟨rfl, rfl⟩
  obtain ⟨pc, po, ph, pn⟩ := pl_all hn
  have hAG : AG (T.2.1 59) (lf (List.range n)) n := fun i hi => by
    rw [t59 i hi, lf_range hi]; exact ⟨rfl, by omega⟩
  have hmem : List.range n ∈ exl n n [] := List.mem_of_mem_head? ph
  have hpp : PPr T n T := ⟨FrM.refl T, by omega, List.range n, hmem, hAG⟩
  have htc := (pp_step hn hStM T hpp).1
  have hw0 : wyl (mpx T) (mpy T) (List.range n) ≤ 280 := by
    rw [← wyM_pw List.length_range hAG]; exact wyM_le htc
  have hfo : fo (wyl (tN (V.2.1 41)) (tN (V.2.1 42))) (exl n n []) (1000000, none) = fo (wyl (mpx T) (mpy T)) (exl n n []) (1000000, none) :=
    fo_congr _ _ (fun p hp => wyl_congr (fun x hx => by
      have := hpx x (okl_mem po hp x hx)
      exact ⟨this.1.symm, this.2.symm⟩))
  rw [hfo] at hX
  have hsub : ∀ q, q ∈ exl n n [] → ∀ i, i < n → lf q i < n := fun q hq => (okl_of po hq).2
  generalize hel : exl n n [] = l at pc po ph pn hmem hX hsub
  obtain ⟨q0, l, rfl⟩ : ∃ q0 l', l = q0 :: l' := by
    cases l with
    | nil => cases ph
    | cons a b => exact ⟨a, b, rfl⟩
  have hq0 : q0 = List.range n := Option.some.inj ph
  subst hq0
  obtain ⟨R, r1, r2, r3⟩ := mw_fold l (List.range n) 721 T (100000, none) pc po (by simp only [List.length_cons] at pn; omega) hAG ⟨t24, fun q hq => by cases hq⟩
  rw [fo_start (a := 100000) (b := 1000000) (by omega) (by omega)] at r2
  obtain ⟨q, q1, q2⟩ := fo_got (wy := wyl (mpx T) (mpy T)) (p := List.range n) (l := l) (a := 1000000) (by omega)
  refine ⟨PPr T n, R, hpp, pp_step hn hStM, r1, ?_⟩
  have rN_ : ∀ j, j ≠ 23 → j ≠ 24 → R.1 j = V.1 j := fun j h1 h2 => (r3.1 j h2).trans (tN_ j h1 h2)
  have rA_ : ∀ j, j ≠ 57 → j ≠ 58 → j ≠ 59 → R.2.1 j = V.2.1 j := fun j h1 h2 h3 => (r3.2.1 j h1 h3).trans (tA_ j h2 h3)
  refine rel_round h (fun j hj => ?_) (fun j hj => ?_) ?_ ?_ ?_
  · have := NR_of hj
    rw [rN_ j (by omega) (by omega)]; exact N j hj
  · have := AR_of hj
    rw [rA_ j (by omega) (by omega) (by omega)]; exact A j hj
  · rw [r3.2.2, tL, cL]
  · rw [r3.1 23 (by decide), t23, rN_ 11 (by decide) (by decide), h11, rN_ 12 (by decide) (by decide), r2.1, hX.1]
    exact ⟨rfl, hn, rfl⟩
  · refine ⟨fun i hi => ?_, fun i => ?_⟩
    · rw [rN_ 11 (by decide) (by decide), h11] at hi
      rw [r2.2 q q2 i hi, rA_ 45 (by decide) (by decide) (by decide), hX.2 q q2 i hi, r3.2.1 58 (by decide) (by decide), t58]
      obtain ⟨f, hf, e1, e2, -⟩ := hst (lf q i) (hsub q q1 i hi)
      rw [e1]
      exact e2.symm
    · rw [rA_ 43 (by decide) (by decide) (by decide), h43]; exact hT.2 i
theorem round_core {S : St} (h : Rel S) {hd day : Int32} {k : Nat} (hk : k ≤ 6) : ∀ (R1 A1 V : St), R1 = sN (wfX S hd day (S.1 7)) 11 0 → A1 = asX R1 k (S.1 7) → V = exX 7 (sN A1 12 1000000) 0 0 0 0 → (∀ i, i < S.1 7 → ¬ R1.2.1 29 i = -9 → waL (R1.2.1 29) i (R1.1 7) < k → (asX R1 k i).1 11 < 6) ∧ TrOK (sN A1 12 1000000) ∧ V.1 13 = 0 ∧ MOK V ∧ (roM hd day k V 0 (-1)).2 = A1.1 11 ∧ ∃ (PP : St → Prop) (R : St), PP (sN (sN (tiM (roM hd day k V 0 (-1)).1 (roM hd day k V 0 (-1)).2) 23 (roM hd day k V 0 (-1)).2) 24 100000) ∧ (∀ S1, PP S1 → TcOK S1 (roM hd day k V 0 (-1)).2 ∧ S1.1 24 ≤ 100000 ∧ PP (goN (upM S1 (roM hd day k V 0 (-1)).2) (roM hd day k V 0 (-1)).2).2) ∧ mwM (roM hd day k V 0 (-1)).2 721 (sN (sN (tiM (roM hd day k V 0 (-1)).1 (roM hd day k V 0 (-1)).2) 23 (roM hd day k V 0 (-1)).2) 24 100000) = some R ∧ Rel R := by
  intro R1 A1 V eR eA eV
  have h0 := id h
  obtain ⟨hN, hL, hD, hI, hB, hF, hV, hS, hW, hK, hQ, hT⟩ := h0
  obtain ⟨n13, n14, n0, n22, n15, n2, n16, n6, n18, n7, n19, n8, n20, n9, n21, n10, n23, n11, n24⟩ := id hN
  have rN_ : ∀ j, j ≠ 11 → R1.1 j = S.1 j := fun j hj => by rw [eR, sN_N, if_neg hj, wfX_N]
  have r11 : R1.1 11 = 0 := by rw [eR]; rfl
  have rA_ : ∀ j, j ≠ 29 → R1.2.1 j = S.2.1 j := fun j hj => by rw [eR, sN_A, wfX_A hj]
  have r29 : ∀ f, f < S.1 7 → R1.2.1 29 f = if elM S hd day f = true then nI (drM S f) else -9 := fun f hf => by
    rw [eR, sN_A, wf_29 _ f hf]; exact h.wt hf hd day
  have rL_ : R1.2.2 = S.2.2 := by rw [eR]; exact wf_L
  clear eR
  have aN_ : ∀ j, j ≠ 11 → A1.1 j = S.1 j := fun j hj => by rw [eA, asX_N hj]; exact rN_ j hj
  have aA_ : ∀ j, j ≠ 29 → (j < 40 ∨ 42 < j) → A1.2.1 j = S.2.1 j := fun j h1 h2 => by rw [eA, asX_A h2]; exact rA_ j h1
  have aL_ : A1.2.2 = S.2.2 := by rw [eA, as_L]; exact rL_
  have vN : ∀ j, j ≠ 12 → V.1 j = A1.1 j := fun j hj => by rw [eV, exX_N hj, sN_N, if_neg hj]
  have vA : ∀ j, (j < 43 ∨ 45 < j) → V.2.1 j = A1.2.1 j := fun j hj => by rw [eV, exX_A hj]; rfl
  have vL : V.2.2 = S.2.2 := by rw [eV, exX_L]; exact aL_
  have v43 : V.2.1 43 = S.2.1 43 := by rw [eV, exX_43]; exact aA_ 43 (by decide) (by omega)
  have N : ∀ j, NR j = true → V.1 j = S.1 j := fun j hj => by
    have := NR_of hj
    rw [vN j (by omega), aN_ j (by omega)]
  have A : ∀ j, AR j = true → V.2.1 j = S.2.1 j := fun j hj => by
    have := AR_of hj
    rw [vA j (by omega), aA_ j (by omega) (by omega)]
  have hmS := h.mok
  have hm : MOK V := mod_mok hmS N A
  have hd7 : ∀ f, f < S.1 18 → drM S f ≤ 700 := fun f hf => drM_le hmS hf
  have v18 : V.1 18 = S.1 7 := by rw [N 18 rfl, n18]
  obtain ⟨a, g, s1, s2, s3, s4⟩ := ro_spec (S := V) (hd := hd) (day := day) (by rw [v18]; exact n7) (fun f hf => drM_le hm hf) k 0 0 (V.2.1 58) (by decide) (by
      have : cn (PA V hd day 0) (V.1 18) ≤ cn (fun _ => false) (V.1 18) := cn_mono _ (fun j hj hp => absurd (PA_iff.mp hp).2 (Nat.not_lt_zero _))
      have hz : ∀ m, cn (fun _ => false) m = 0 := fun m => by
        induction m with
        | zero => rfl
        | succ m ih => rw [cn, if_neg Bool.false_ne_true]; exact ih
      rw [hz] at this; exact this) (fun z => absurd z (Nat.not_lt_zero _)) (fun f hf hp => absurd (PA_iff.mp hp).2 (Nat.not_lt_zero _))
  have c0 : cn (PA V hd day 0) (V.1 18) = 0 := by
    have : cn (PA V hd day 0) (V.1 18) ≤ cn (fun _ => false) (V.1 18) := cn_mono _ (fun j hj hp => absurd (PA_iff.mp hp).2 (Nat.not_lt_zero _))
    have hz : ∀ m, cn (fun _ => false) m = 0 := fun m => by
      induction m with
      | zero => rfl
      | succ m ih => rw [cn, if_neg Bool.false_ne_true]; exact ih
    rw [hz] at this; omega
  rw [c0, set58_self, show afI 0 = -1 from rfl] at s1
  obtain ⟨mP, mE, mK⟩ := mod_PA N A
  rw [mP, v18] at s1 s2 s3 s4
  rw [mE, mK] at s4
  rw [Nat.zero_add] at s3 s4
  have hch : ∀ f, f < S.1 7 → (PA S hd day a f = true ↔ (¬ R1.2.1 29 f = -9 ∧ waL (R1.2.1 29) f (R1.1 7) < k)) := fun f hf => by
    rw [rN_ 7 (by decide)]
    exact chosen n7 (fun j hj => hd7 j (by omega)) r29 s3 s4 hf
  have has := fun n (hn : n ≤ S.1 7) => as_spec (S := R1) (k := k) (P := PA S hd day a) r11 n (fun f hf => hch f (by omega))
  have hA1 := has (S.1 7) (Nat.le_refl _)
  rw [← eA] at hA1
  have hn6 : cn (PA S hd day a) (S.1 7) ≤ 6 := by omega
  have htr : TrOK (sN A1 12 1000000) := by
    refine ⟨?_, Nat.le_refl _, fun i hi => ?_⟩
    · show A1.1 11 ≤ 6
      rw [hA1.1]; exact hn6
    · have hi' : i < A1.1 11 := hi
      rw [hA1.1] at hi'
      obtain ⟨f, hf, hp, he⟩ := cn_surj _ _ hi'
      have hx := hA1.2 f hf hp
      rw [he, rA_ 24 (by decide), rA_ 25 (by decide)] at hx
      have hv := hV f hf
      show A1.2.1 41 i = nI (tn (A1.2.1 41 i)) ∧ tn (A1.2.1 41 i) ≤ 20 ∧ A1.2.1 42 i = nI (tn (A1.2.1 42 i)) ∧ tn (A1.2.1 42 i) ≤ 20
      rw [hx.2.1, hx.2.2]
      exact ⟨hv.2.2.2.1.1, hv.2.2.2.1.2, hv.2.2.2.2.1.1, hv.2.2.2.2.1.2⟩
  refine ⟨fun i hi c1 c2 => ?_, htr, ?_, hm, ?_, ?_⟩
  · have hp := (hch i hi).mpr ⟨c1, c2⟩
    rw [(has i (by omega)).1]
    have := cn_lt (P := PA S hd day a) hi hp
    omega
  · rw [N 13 rfl]; exact n13
  · rw [s1, hA1.1]
  · refine two_ways (n := cn (PA S hd day a) (S.1 7)) h hn6 N A vL v43 (by rw [vN 11 (by decide)]; exact hA1.1) s1 rfl s2 (fun f hf hp => ?_) ?_
    · have hx := hA1.2 f hf hp
      rw [rA_ 24 (by decide), rA_ 25 (by decide)] at hx
      rw [vA 40 (by omega), vA 41 (by omega), vA 42 (by omega)]
      exact hx
    · have hex := ex_fold (n := cn (PA S hd day a) (S.1 7)) (xf := 6 - cn (PA S hd day a) (S.1 7)) (A40 := A1.2.1 40) (A41 := A1.2.1 41) (A42 := A1.2.1 42) (cn (PA S hd day a) (S.1 7)) (sN A1 12 1000000) 0 0 0 [] (1000000, none) (by simp) rfl ⟨hA1.1, rfl, rfl, rfl, fun i hi => by
          show A1.2.1 43 i = _
          rw [aA_ 43 (by decide) (by omega), hT.2 i]; rfl, fun j hj => absurd hj (Nat.not_lt_zero _)⟩ ⟨rfl, fun q hq => by cases hq⟩
      rw [show 6 - cn (PA S hd day a) (S.1 7) + cn (PA S hd day a) (S.1 7) + 1 = 7 by omega] at hex
      rw [vA 41 (by omega), vA 42 (by omega)]
      rw [show ([] : List Nat).length = 0 from rfl, ← eV] at hex
      exact hex
set_option maxHeartbeats 1000000 in
theorem st_round (G : GT) (S : St) (h : Rel S) (hd n day : Int32) : ∃ (r : Int32) (S1 S2 : St), rX7_round G 10 [.ref (gad G 0), .int hd, .int n, .int day] S (some (.int r)) S1 ∧ rX8_round G 10 [.ref (gad G 8), .int hd, .int n, .int day] S1 (some (.int r)) S2 ∧ Rel S2 := by
  have h0 := id h
  obtain ⟨hN, hL, hD, hI, hB, hF, hV, hS, hW, hK, hQ, hT⟩ := h0
  obtain ⟨n13, n14, n0, n22, n15, n2, n16, n6, n18, n7, n19, n8, n20, n9, n21, n10, n23, n11, n24⟩ := id hN
  cases hb : (inR hd (nI 0) (nI 3) && inR n (nI 1) (nI 6) && inR day (nI 0) (nI 800)) with
  | false => exact ⟨-1, S, S, m_X7_round_bad 0 G S hd n day hb, m_X8_round_bad 6 G S n13 hd n day hb, h⟩
  | true =>
    simp only [Bool.and_eq_true] at hb
    obtain ⟨k, rfl, hk1, hk6⟩ := inR_of hb.1.2 (by decide) (by decide)
    obtain ⟨c1, c2, c3, c4, c5, PP, R, p1, p2, p3, p4⟩ := round_core h (hd := hd) (day := day) hk6 _ _ _ rfl rfl rfl
    refine ⟨_, _, R, m_X7_round_ok 0 G S hd day k hk1 hk6 hb.1.1 hb.2 n7 n8 n10 h.hd h.bk h.swok c1 c2, ?_, p4⟩
    rw [← c5]
    exact m_X8_round_ok 6 G _ c3 hd day k hk1 hk6 hb.1.1 hb.2 c4 PP R p1 p2 p3
