/-! rows of stops, in their order, and the first of the least -/
def pst (px py : Nat → Nat) (s : Nat × Nat × Nat) (i : Nat) : Nat × Nat × Nat := (px i, py i, s.2.2 + adN (px i) s.1 + adN (py i) s.2.1)
def pw (px py : Nat → Nat) (p : List Nat) : Nat × Nat × Nat := p.foldl (pst px py) (0, 0, 0)
def hm (s : Nat × Nat × Nat) : Nat := s.2.2 + s.1 + s.2.1
def wyl (px py : Nat → Nat) (p : List Nat) : Nat := hm (pw px py p)
theorem pw_snoc {px py : Nat → Nat} {p : List Nat} {i : Nat} : pw px py (p ++ [i]) = pst px py (pw px py p) i := by
  unfold pw
  rw [List.foldl_append]
  rfl
theorem hm_pst {px py : Nat → Nat} {s : Nat × Nat × Nat} {i : Nat} : hm s ≤ hm (pst px py s i) := by
  show s.2.2 + s.1 + s.2.1 ≤ s.2.2 + adN (px i) s.1 + adN (py i) s.2.1 + px i + py i
  unfold adN
  split <;> split <;> omega
def exl (n : Nat) : Nat → List Nat → List (List Nat)
  | 0, pre => [pre]
  | f + 1, pre => (List.range' 0 n).flatMap (fun i => if pre.contains i = true then [] else exl n f (pre ++ [i]))
theorem exl_ge {px py : Nat → Nat} {n : Nat} : ∀ (f : Nat) (pre q : List Nat), q ∈ exl n f pre → wyl px py pre ≤ wyl px py q
  | 0, pre, q, h => by
    rw [exl, List.mem_singleton] at h
    rw [h]; exact Nat.le_refl _
  | f + 1, pre, q, h => by
    rw [exl, List.mem_flatMap] at h
    obtain ⟨i, -, hi⟩ := h
    by_cases c : pre.contains i = true
    · rw [if_pos c] at hi; cases hi
    · rw [if_neg c] at hi
      have h1 := exl_ge (px := px) (py := py) f (pre ++ [i]) q hi
      have h2 : wyl px py pre ≤ wyl px py (pre ++ [i]) := by
        unfold wyl
        rw [pw_snoc]
        exact hm_pst
      exact Nat.le_trans h2 h1
def fo (wy : List Nat → Nat) : List (List Nat) → Nat × Option (List Nat) → Nat × Option (List Nat)
  | [], s => s
  | p :: l, s => fo wy l (if wy p < s.1 then (wy p, some p) else s)
theorem fo_app {wy : List Nat → Nat} : ∀ (l1 l2 : List (List Nat)) (s : Nat × Option (List Nat)), fo wy (l1 ++ l2) s = fo wy l2 (fo wy l1 s)
  | [], l2, s => rfl
  | p :: l, l2, s => fo_app l l2 _
theorem fo_skip {wy : List Nat → Nat} : ∀ (l : List (List Nat)) (s : Nat × Option (List Nat)), (∀ q, q ∈ l → s.1 ≤ wy q) → fo wy l s = s
  | [], s, _ => rfl
  | p :: l, s, h => by
    rw [fo, if_neg (by have := h p (List.mem_cons_self ..); omega)]
    exact fo_skip l s (fun q hq => h q (List.mem_cons_of_mem _ hq))
theorem fo_mem {wy : List Nat → Nat} : ∀ (l : List (List Nat)) (s : Nat × Option (List Nat)), (∃ q, s.2 = some q) → ∃ q, (q ∈ l ∨ s.2 = some q) ∧ (fo wy l s).2 = some q
  | [], s, h => by
    obtain ⟨q, hq⟩ := h
    exact ⟨q, Or.inr hq, hq⟩
  | p :: l, s, h => by
    rw [fo]
    by_cases c : wy p < s.1
    · rw [if_pos c]
      obtain ⟨q, h1, h2⟩ := fo_mem l (wy p, some p) ⟨p, rfl⟩
      refine ⟨q, Or.inl ?_, h2⟩
      rcases h1 with h1 | h1
      · exact List.mem_cons_of_mem _ h1
      · cases h1; exact List.mem_cons_self ..
    · rw [if_neg c]
      obtain ⟨q, h1, h2⟩ := fo_mem l s h
      exact ⟨q, h1.imp (List.mem_cons_of_mem _) id, h2⟩
/-! the class's search -/
def tN (f : Nat → Int32) (i : Nat) : Nat := tn (f i)
def FX (n : Nat) (S : St) (s : Nat × Option (List Nat)) : Prop := S.1 12 = s.1 ∧ ∀ q, s.2 = some q → ∀ i, i < n → S.2.1 45 i = S.2.1 40 (q.getD i 0)
def IX (n : Nat) (A40 A41 A42 : Nat → Int32) (S : St) (pre : List Nat) : Prop := S.1 11 = n ∧ S.2.1 40 = A40 ∧ S.2.1 41 = A41 ∧ S.2.1 42 = A42 ∧ (∀ i, i < n → S.2.1 43 i = bI (pre.contains i)) ∧ ∀ j, j < pre.length → S.2.1 44 j = A40 (pre.getD j 0)
theorem ktX_45 {S : St} : ∀ (n i : Nat), i < n → (ktX S n).2.1 45 i = S.2.1 44 i
  | 0, i, h => absurd h (Nat.not_lt_zero _)
  | n + 1, i, h => by
    show upd ((ktX S n).2.1 45) n (S.2.1 44 n) i = _
    by_cases e : i = n
    · subst e; rw [upd_s]
    · rw [upd_n e]; exact ktX_45 n i (by omega)
theorem exI_43 {rec : St → Nat → Nat → Nat → Nat → St} {dp ax ay gn : Nat} (hr : ∀ S a b c e, (rec S a b c e).2.1 43 = S.2.1 43) : ∀ (n i : Nat) (S : St), (exI rec dp ax ay gn n i S).2.1 43 = S.2.1 43
  | 0, i, S => rfl
  | n + 1, i, S => by
    rw [exI, exI_43 hr n]
    split
    · rename_i h
      show upd ((rec _ _ _ _ _).2.1 43) i (bI false) = S.2.1 43
      rw [hr]
      show upd (upd (S.2.1 43) i (bI true)) i (bI false) = S.2.1 43
      funext j
      by_cases e : j = i
      · subst e; rw [upd_s, h]; rfl
      · rw [upd_n e, upd_n e]
    · rfl
theorem exX_43 : ∀ (f : Nat) (S : St) (dp ax ay gn : Nat), (exX f S dp ax ay gn).2.1 43 = S.2.1 43
  | 0, S, dp, ax, ay, gn => rfl
  | f + 1, S, dp, ax, ay, gn => by
    unfold exX
    split
    · rfl
    · split
      · rw [ktX_A (by decide)]; rfl
      · exact exI_43 (exX_43 f) _ _ _
theorem exI_44 {rec : St → Nat → Nat → Nat → Nat → St} {dp ax ay gn j : Nat} (hj : j < dp) (hr : ∀ S a b c, (rec S (dp + 1) a b c).2.1 44 j = S.2.1 44 j) : ∀ (n i : Nat) (S : St), (exI rec dp ax ay gn n i S).2.1 44 j = S.2.1 44 j
  | 0, i, S => rfl
  | n + 1, i, S => by
    rw [exI, exI_44 hj hr n]
    split
    · show (rec _ _ _ _ _).2.1 44 j = S.2.1 44 j
      rw [hr]
      exact upd_n (by omega)
    · rfl
theorem exX_44 : ∀ (f : Nat) (S : St) (dp ax ay gn j : Nat), j < dp → (exX f S dp ax ay gn).2.1 44 j = S.2.1 44 j
  | 0, S, dp, ax, ay, gn, j, h => rfl
  | f + 1, S, dp, ax, ay, gn, j, h => by
    unfold exX
    split
    · rfl
    · split
      · rw [ktX_A (by decide)]; rfl
      · exact exI_44 h (fun S a b c => exX_44 f S (dp + 1) a b c j (by omega)) _ _ _
theorem ktX_L {S : St} : ∀ {n : Nat}, (ktX S n).2.2 = S.2.2
  | 0 => rfl
  | n + 1 => ktX_L (n := n)
theorem exI_L {rec : St → Nat → Nat → Nat → Nat → St} {dp ax ay gn : Nat} (hr : ∀ S a b c e, (rec S a b c e).2.2 = S.2.2) : ∀ (n i : Nat) (S : St), (exI rec dp ax ay gn n i S).2.2 = S.2.2
  | 0, i, S => rfl
  | n + 1, i, S => by
    rw [exI, exI_L hr n]
    split
    · show (rec _ _ _ _ _).2.2 = S.2.2
      rw [hr]; rfl
    · rfl
theorem exX_L : ∀ (f : Nat) (S : St) (dp ax ay gn : Nat), (exX f S dp ax ay gn).2.2 = S.2.2
  | 0, S, dp, ax, ay, gn => rfl
  | f + 1, S, dp, ax, ay, gn => by
    unfold exX
    split
    · rfl
    · split
      · exact ktX_L
      · exact exI_L (exX_L f) _ _ _
theorem getD_snoc {p : List Nat} {i j : Nat} : (p ++ [i]).getD j 0 = if j < p.length then p.getD j 0 else if j = p.length then i else 0 := by
  simp only [List.getD_eq_getElem?_getD, List.getElem?_append]
  by_cases h : j < p.length
  · rw [if_pos h, if_pos h]
  · rw [if_neg h, if_neg h]
    by_cases e : j = p.length
    · subst e; simp
    · rw [if_neg e, List.getElem?_singleton, if_neg (by omega)]; rfl
theorem ex_fold {n xf : Nat} {A40 A41 A42 : Nat → Int32} : ∀ (f : Nat) (S : St) (ax ay gn : Nat) (pre : List Nat) (s : Nat × Option (List Nat)), pre.length + f = n → pw (tN A41) (tN A42) pre = (ax, ay, gn) → IX n A40 A41 A42 S pre → FX n S s → FX n (exX (xf + f + 1) S pre.length ax ay gn) (fo (wyl (tN A41) (tN A42)) (exl n f pre) s) := by
  intro f
  induction f with
  | zero =>
    intro S ax ay gn pre s hl hpw hI hF
    obtain ⟨i11, i40, i41, i42, i43, i44⟩ := hI
    have hw : wyl (tN A41) (tN A42) pre = gn + ax + ay := by unfold wyl; rw [hpw]; rfl
    rw [exX]
    by_cases h1 : S.1 12 ≤ gn + ax + ay
    · rw [if_pos h1, fo_skip]
      · exact hF
      · intro q hq
        have := exl_ge (px := tN A41) (py := tN A42) 0 pre q hq
        rw [← hF.1]; omega
    · rw [if_neg h1, if_pos (by omega)]
      show FX n _ (if wyl (tN A41) (tN A42) pre < s.1 then (wyl (tN A41) (tN A42) pre, some pre) else s)
      rw [if_pos (by rw [← hF.1]; omega)]
      refine ⟨?_, fun q hq i hi => ?_⟩
      · show (ktX (sN S 12 (gn + ax + ay)) (S.1 11)).1 12 = wyl (tN A41) (tN A42) pre
        rw [ktX_N, hw]; rfl
      · cases hq
        rw [ktX_45 _ i (by omega), ktX_A (by decide)]
        show S.2.1 44 i = S.2.1 40 (pre.getD i 0)
        rw [i44 i (by omega), i40]
  | succ f ih =>
    intro S ax ay gn pre s hl hpw hI hF
    have hw : wyl (tN A41) (tN A42) pre = gn + ax + ay := by unfold wyl; rw [hpw]; rfl
    have inner : ∀ (m i : Nat) (S : St) (s : Nat × Option (List Nat)), i + m = n → IX n A40 A41 A42 S pre → FX n S s → FX n (exI (exX (xf + f + 1)) pre.length ax ay gn m i S) (fo (wyl (tN A41) (tN A42)) ((List.range' i m).flatMap (fun i => if pre.contains i = true then [] else exl n f (pre ++ [i]))) s) := by
      intro m
      induction m with
      | zero => intro i S s _ _ hF; exact hF
      | succ m ihm =>
        intro i S s him hI hF
        obtain ⟨i11, i40, i41, i42, i43, i44⟩ := id hI
        rw [exI, List.range'_succ, List.flatMap_cons, fo_app]
        by_cases hc : pre.contains i = true
        · have hn : ¬ S.2.1 43 i = 0 := by rw [i43 i (by omega), hc]; decide
          rw [if_neg hn, if_pos hc]
          exact ihm (i + 1) S s (by omega) hI hF
        · have hcf : pre.contains i = false := by cases z : pre.contains i with
            | false => rfl
            | true => exact absurd z hc
          have hz : S.2.1 43 i = 0 := by rw [i43 i (by omega), hcf]; rfl
          rw [if_pos hz, if_neg hc]
          have hlen : (pre ++ [i]).length = pre.length + 1 := by rw [List.length_append]; rfl
          have h1 := ih (sA (sA S 43 i (bI true)) 44 pre.length (S.2.1 40 i)) (tn (S.2.1 41 i)) (tn (S.2.1 42 i)) (gn + (adN (tn (S.2.1 41 i)) ax + adN (tn (S.2.1 42 i)) ay)) (pre ++ [i]) s (by rw [hlen]; omega) (by
            rw [pw_snoc, hpw, i41, i42]
            show (tN A41 i, tN A42 i, gn + adN (tN A41 i) ax + adN (tN A42 i) ay) = _
            rw [Nat.add_assoc]; rfl) ⟨i11, i40, i41, i42, fun j hj => by
              show upd (S.2.1 43) i (bI true) j = _
              by_cases e : j = i
              · subst e; rw [upd_s]; simp
              · rw [upd_n e, i43 j hj]; simp [e], fun j hj => by
              rw [hlen] at hj
              show upd (S.2.1 44) pre.length (S.2.1 40 i) j = _
              rw [getD_snoc]
              by_cases e : j = pre.length
              · rw [e, upd_s, if_neg (by omega), if_pos rfl, i40]
              · rw [upd_n e, if_pos (by omega)]; exact i44 j (by omega)⟩ hF
          rw [hlen] at h1
          refine ihm (i + 1) _ _ (by omega) ?_ ?_
          · refine ⟨?_, ?_, ?_, ?_, fun j hj => ?_, fun j hj => ?_⟩
            · rw [sA_N, exX_N (by decide)]; exact i11
            · rw [sA_A, if_neg (by decide), exX_A (by omega)]; exact i40
            · rw [sA_A, if_neg (by decide), exX_A (by omega)]; exact i41
            · rw [sA_A, if_neg (by decide), exX_A (by omega)]; exact i42
            · rw [sA_A, if_pos rfl, exX_43]
              show upd (upd (S.2.1 43) i (bI true)) i (bI false) j = _
              by_cases e : j = i
              · subst e; rw [upd_s, hcf]
              · rw [upd_n e, upd_n e]; exact i43 j hj
            · rw [sA_A, if_neg (by decide), exX_44 _ _ _ _ _ _ j (by omega)]
              show upd (S.2.1 44) pre.length (S.2.1 40 i) j = _
              rw [upd_n (by omega)]; exact i44 j hj
          · exact h1
    rw [exX]
    by_cases h1 : S.1 12 ≤ gn + ax + ay
    · rw [if_pos h1, fo_skip]
      · exact hF
      · intro q hq
        have := exl_ge (px := tN A41) (py := tN A42) (f + 1) pre q hq
        rw [← hF.1]; omega
    · rw [if_neg h1, if_neg (by rw [hI.1]; omega), hI.1]
      exact inner n 0 S s (by omega) hI hF
/-! the model's search -/
def gkN (g : Nat → Nat) : Nat → Option Nat
  | 0 => none
  | m + 1 => if g m ≤ g (m + 1) then some m else gkN g m
def gjN (g : Nat → Nat) (k : Nat) : Nat → Nat
  | 0 => 0
  | j + 1 => if g k ≤ g (j + 1) then j + 1 else gjN g k j
def swN (g : Nat → Nat) (a b : Nat) : Nat → Nat := fun i => if i = b then g a else if i = a then g b else g i
def rvN : Nat → (Nat → Nat) → Nat → Nat → Nat → Nat
  | 0, g, _, _ => g
  | f + 1, g, a, b => if a < b then rvN f (swN g a b) (a + 1) (b - 1) else g
def lf (p : List Nat) (i : Nat) : Nat := p.getD i 0
def nxl (n : Nat) (p : List Nat) : Option (List Nat) := match gkN (lf p) (n - 1) with
  | none => none
  | some k => some ((List.range n).map (rvN 6 (swN (lf p) k (gjN (lf p) k (n - 1))) (k + 1) (n - 1)))
def chn (n : Nat) : List (List Nat) → Bool
  | [] => true
  | p :: l => (nxl n p == l.head?) && chn n l
def okl (n : Nat) (l : List (List Nat)) : Bool := l.all (fun p => p.length == n && p.all (fun x => decide (x < n)))
theorem pl_0 : chn 0 (exl 0 0 []) = true ∧ okl 0 (exl 0 0 []) = true ∧ (exl 0 0 []).head? = some (List.range 0) ∧ (exl 0 0 []).length ≤ 720 := by decide +kernel
theorem pl_1 : chn 1 (exl 1 1 []) = true ∧ okl 1 (exl 1 1 []) = true ∧ (exl 1 1 []).head? = some (List.range 1) ∧ (exl 1 1 []).length ≤ 720 := by decide +kernel
theorem pl_2 : chn 2 (exl 2 2 []) = true ∧ okl 2 (exl 2 2 []) = true ∧ (exl 2 2 []).head? = some (List.range 2) ∧ (exl 2 2 []).length ≤ 720 := by decide +kernel
theorem pl_3 : chn 3 (exl 3 3 []) = true ∧ okl 3 (exl 3 3 []) = true ∧ (exl 3 3 []).head? = some (List.range 3) ∧ (exl 3 3 []).length ≤ 720 := by decide +kernel
theorem pl_4 : chn 4 (exl 4 4 []) = true ∧ okl 4 (exl 4 4 []) = true ∧ (exl 4 4 []).head? = some (List.range 4) ∧ (exl 4 4 []).length ≤ 720 := by decide +kernel
theorem pl_5 : chn 5 (exl 5 5 []) = true ∧ okl 5 (exl 5 5 []) = true ∧ (exl 5 5 []).head? = some (List.range 5) ∧ (exl 5 5 []).length ≤ 720 := by decide +kernel
theorem pl_6 : chn 6 (exl 6 6 []) = true ∧ okl 6 (exl 6 6 []) = true ∧ (exl 6 6 []).head? = some (List.range 6) ∧ (exl 6 6 []).length ≤ 720 := by decide +kernel
theorem pl_all {n : Nat} (h : n ≤ 6) : chn n (exl n n []) = true ∧ okl n (exl n n []) = true ∧ (exl n n []).head? = some (List.range n) ∧ (exl n n []).length ≤ 720 := by
  rcases (show n = 0 ∨ n = 1 ∨ n = 2 ∨ n = 3 ∨ n = 4 ∨ n = 5 ∨ n = 6 by omega) with rfl | rfl | rfl | rfl | rfl | rfl | rfl
  · exact pl_0
  · exact pl_1
  · exact pl_2
  · exact pl_3
  · exact pl_4
  · exact pl_5
  · exact pl_6
theorem okl_of {n : Nat} {l : List (List Nat)} {p : List Nat} (h : okl n l = true) (hp : p ∈ l) : p.length = n ∧ ∀ i, i < n → lf p i < n := by
  unfold okl at h
  rw [List.all_eq_true] at h
  have := h p hp
  rw [Bool.and_eq_true, List.all_eq_true] at this
  have hl : p.length = n := eq_of_beq this.1
  refine ⟨hl, fun i hi => ?_⟩
  have hm : lf p i ∈ p := by
    unfold lf
    rw [List.getD_eq_getElem?_getD, List.getElem?_eq_getElem (by omega)]
    exact List.getElem_mem _
  exact of_decide_eq_true (this.2 _ hm)
theorem chn_mem {n : Nat} {p : List Nat} : ∀ {l : List (List Nat)}, chn n l = true → p ∈ l → nxl n p = none ∨ ∃ q, q ∈ l ∧ nxl n p = some q
  | [], _, hp => by cases hp
  | r :: l, h, hp => by
    rw [chn, Bool.and_eq_true] at h
    have h1 : nxl n r = l.head? := eq_of_beq h.1
    rcases List.mem_cons.mp hp with e | hp
    · subst e
      cases l with
      | nil => exact Or.inl h1
      | cons q l => exact Or.inr ⟨q, List.mem_cons_of_mem _ (List.mem_cons_self ..), h1⟩
    · rcases chn_mem h.2 hp with z | ⟨q, hq, z⟩
      · exact Or.inl z
      · exact Or.inr ⟨q, List.mem_cons_of_mem _ hq, z⟩
def AG (f : Nat → Int32) (g : Nat → Nat) (n : Nat) : Prop := ∀ i, i < n → f i = nI (g i) ∧ g i < 100
theorem gk_br {f : Nat → Int32} {g : Nat → Nat} {n : Nat} (h : AG f g n) : ∀ m, m < n → gkL f m = gkN g m
  | 0, _ => rfl
  | m + 1, hm => by
    have h1 := h m (by omega)
    have h2 := h (m + 1) hm
    unfold gkL gkN
    rw [gk_br h m (by omega), h1.1, h2.1]
    by_cases c : g m ≤ g (m + 1)
    · rw [if_pos c, if_pos ((nI_leI (by omega) (by omega)).mpr c)]
    · rw [if_neg c, if_neg (fun z => c ((nI_leI (by omega) (by omega)).mp z))]
theorem gj_br {f : Nat → Int32} {g : Nat → Nat} {n k : Nat} (h : AG f g n) (hk : k < n) : ∀ j, j < n → gjL f k j = gjN g k j
  | 0, _ => rfl
  | j + 1, hj => by
    have h1 := h k hk
    have h2 := h (j + 1) hj
    unfold gjL gjN
    rw [gj_br h hk j (by omega), h1.1, h2.1]
    by_cases c : g k ≤ g (j + 1)
    · rw [if_pos c, if_pos ((nI_leI (by omega) (by omega)).mpr c)]
    · rw [if_neg c, if_neg (fun z => c ((nI_leI (by omega) (by omega)).mp z))]
theorem sw_br {f : Nat → Int32} {g : Nat → Nat} {n a b : Nat} (h : AG f g n) (ha : a < n) (hb : b < n) : AG (upd (upd f a (f b)) b (f a)) (swN g a b) n := by
  intro i hi
  unfold swN
  by_cases e1 : i = b
  · rw [if_pos e1, e1, upd_s]; exact h a ha
  · rw [if_neg e1, upd_n e1]
    by_cases e2 : i = a
    · rw [if_pos e2, e2, upd_s]; exact h b hb
    · rw [if_neg e2, upd_n e2]; exact h i hi
def FrM (S S' : St) : Prop := (∀ j, j ≠ 24 → S'.1 j = S.1 j) ∧ (∀ j, j ≠ 57 → j ≠ 59 → S'.2.1 j = S.2.1 j) ∧ S'.2.2 = S.2.2
theorem FrM.refl (S : St) : FrM S S := ⟨fun _ _ => rfl, fun _ _ _ => rfl, rfl⟩
theorem FrM.trans {S T U : St} (h1 : FrM S T) (h2 : FrM T U) : FrM S U := ⟨fun j hj => (h2.1 j hj).trans (h1.1 j hj), fun j h h' => (h2.2.1 j h h').trans (h1.2.1 j h h'), h2.2.2.trans h1.2.2⟩
/-- only the row of tries changes -/
def Fr9 (S S' : St) : Prop := S'.1 = S.1 ∧ (∀ j, j ≠ 59 → S'.2.1 j = S.2.1 j) ∧ S'.2.2 = S.2.2
theorem Fr9.trans {S T U : St} (h1 : Fr9 S T) (h2 : Fr9 T U) : Fr9 S U := ⟨h2.1.trans h1.1, fun j h => (h2.2.1 j h).trans (h1.2.1 j h), h2.2.2.trans h1.2.2⟩
theorem Fr9.sw (S : St) (a b : Nat) : Fr9 S (swM S a b) := ⟨rfl, fun j h => by unfold swM; rw [sA_A, if_neg h, sA_A, if_neg h], rfl⟩
theorem rv_br {n : Nat} : ∀ (fu : Nat) (S : St) (g : Nat → Nat) (a b : Nat), AG (S.2.1 59) g n → b < n → AG ((rvM fu S a b).2.1 59) (rvN fu g a b) n ∧ Fr9 S (rvM fu S a b)
  | 0, S, g, a, b, h, _ => ⟨h, rfl, fun _ _ => rfl, rfl⟩
  | fu + 1, S, g, a, b, h, hb => by
    unfold rvM rvN
    by_cases c : a < b
    · rw [if_pos c, if_pos c]
      have := rv_br fu (swM S a b) (swN g a b) (a + 1) (b - 1) (sw_br h (by omega) hb) (by omega)
      exact ⟨this.1, (Fr9.sw S a b).trans this.2⟩
    · rw [if_neg c, if_neg c]; exact ⟨h, rfl, fun _ _ => rfl, rfl⟩
theorem gkN_lt {g : Nat → Nat} : ∀ {m k : Nat}, gkN g m = some k → k < m
  | 0, k, h => by cases h
  | m + 1, k, h => by
    unfold gkN at h
    split at h
    · cases h; exact Nat.lt_succ_self _
    · exact Nat.lt_succ_of_lt (gkN_lt h)
theorem gjN_le {g : Nat → Nat} {k : Nat} : ∀ j : Nat, gjN g k j ≤ j
  | 0 => Nat.le_refl _
  | j + 1 => by
    unfold gjN
    have := gjN_le (g := g) (k := k) j
    split <;> omega
theorem lf_map {h : Nat → Nat} {n i : Nat} (hi : i < n) : lf ((List.range n).map h) i = h i := by
  unfold lf
  rw [List.getD_eq_getElem?_getD, List.getElem?_map, List.getElem?_range hi]; rfl
theorem go_br {S : St} {n : Nat} {p : List Nat} (h : AG (S.2.1 59) (lf p) n) : (nxl n p = none → goN S n = (false, S)) ∧ ∀ q, nxl n p = some q → (goN S n).1 = true ∧ AG ((goN S n).2.2.1 59) (lf q) n ∧ Fr9 S (goN S n).2 := by
  by_cases h0 : n = 0
  · subst h0
    refine ⟨fun _ => rfl, fun q hq => ?_⟩
    have : nxl 0 p = none := rfl
    rw [this] at hq; cases hq
  · have hg : goN S n = goM S n := by rw [goN, if_neg h0]
    rw [hg]
    unfold nxl goM
    rw [gk_br h (n - 1) (by omega)]
    cases hk : gkN (lf p) (n - 1) with
    | none => exact ⟨fun _ => rfl, fun q hq => by cases hq⟩
    | some k =>
      have hkn := gkN_lt hk
      refine ⟨fun z => (by cases z), fun q hq => ?_⟩
      have hq' := Option.some.inj hq
      have hj := gjN_le (g := lf p) (k := k) (n - 1)
      have ej : gjL (S.2.1 59) k (n - 1) = gjN (lf p) k (n - 1) := gj_br h (by omega) (n - 1) (by omega)
      dsimp only
      rw [ej]
      have hr := rv_br (n := n) 6 (swM S k (gjN (lf p) k (n - 1))) (swN (lf p) k (gjN (lf p) k (n - 1))) (k + 1) (n - 1) (sw_br h (by omega) (by omega)) (by omega)
      refine ⟨rfl, fun i hi => ?_, (Fr9.sw S _ _).trans hr.2⟩
      rw [← hq', lf_map hi]
      exact hr.1 i hi
theorem wyL_pw {px py pX pY : Nat → Nat} {p : List Nat} : ∀ k, k ≤ p.length → (∀ i, i < k → pX i = px (lf p i) ∧ pY i = py (lf p i)) → wyL pX pY k = pw px py (p.take k)
  | 0, _, _ => rfl
  | k + 1, hk, h => by
    have ih := wyL_pw k (by omega) (fun i hi => h i (by omega))
    have ht : p.take (k + 1) = p.take k ++ [lf p k] := by
      rw [List.take_succ, List.getElem?_eq_getElem (by omega)]
      unfold lf
      rw [List.getD_eq_getElem?_getD, List.getElem?_eq_getElem (by omega)]
      rfl
    rw [ht, pw_snoc, ← ih, wyL, (h k (by omega)).1, (h k (by omega)).2]
    rfl
def FM (n : Nat) (S : St) (s : Nat × Option (List Nat)) : Prop := S.1 24 = s.1 ∧ ∀ q, s.2 = some q → ∀ i, i < n → S.2.1 57 i = S.2.1 58 (lf q i)
def mpx (S : St) (j : Nat) : Nat := tn (ofM S (tn (S.2.1 58 j)) 5)
def mpy (S : St) (j : Nat) : Nat := tn (ofM S (tn (S.2.1 58 j)) 6)
theorem wyM_pw {S : St} {n : Nat} {p : List Nat} (hl : p.length = n) (h : AG (S.2.1 59) (lf p) n) : wyM S n = wyl (mpx S) (mpy S) p := by
  have h1 : wyL (pxM S) (pyM S) n = pw (mpx S) (mpy S) p := by
    rw [wyL_pw (px := mpx S) (py := mpy S) (p := p) n (by omega) (fun i hi => ?_), List.take_of_length_le (by omega)]
    have := h i hi
    have e : chM S i = tn (S.2.1 58 (lf p i)) := by
      unfold chM
      rw [this.1, tnI (by omega)]
    unfold pxM pyM mpx mpy
    rw [e]
    exact ⟨rfl, rfl⟩
  unfold wyM wyl
  rw [h1]
  rfl
theorem cpM_57 {S : St} : ∀ (n i : Nat), i < n → (cpM S n).2.1 57 i = S.2.1 58 (tn (S.2.1 59 i))
  | 0, i, h => absurd h (Nat.not_lt_zero _)
  | n + 1, i, h => by
    show upd ((cpM S n).2.1 57) n (S.2.1 58 (tn (S.2.1 59 n))) i = _
    by_cases e : i = n
    · subst e; rw [upd_s]
    · rw [upd_n e]; exact cpM_57 n i (by omega)
theorem cpM_L {S : St} : ∀ {n : Nat}, (cpM S n).2.2 = S.2.2
  | 0 => rfl
  | n + 1 => cpM_L (n := n)
theorem up_fr (S : St) (n : Nat) : FrM S (upM S n) ∧ (upM S n).2.1 59 = S.2.1 59 ∧ (upM S n).1 24 ≤ S.1 24 := by
  unfold upM
  split
  · rename_i c
    refine ⟨⟨fun j hj => ?_, fun j hj _ => ?_, ?_⟩, ?_, ?_⟩
    · rw [cpM_N, sN_N, if_neg hj]
    · rw [cpM_A hj]; rfl
    · rw [cpM_L]; rfl
    · rw [cpM_59]; rfl
    · rw [cpM_N, sN_N, if_pos rfl]; omega
  · exact ⟨FrM.refl S, rfl, Nat.le_refl _⟩
theorem up_FM {S : St} {n : Nat} {p : List Nat} {s : Nat × Option (List Nat)} (hl : p.length = n) (h : AG (S.2.1 59) (lf p) n) (hF : FM n S s) : FM n (upM S n) (if wyl (mpx S) (mpy S) p < s.1 then (wyl (mpx S) (mpy S) p, some p) else s) := by
  unfold upM
  rw [wyM_pw hl h, hF.1]
  by_cases c : wyl (mpx S) (mpy S) p < s.1
  · rw [if_pos c, if_pos c]
    refine ⟨?_, fun q hq i hi => ?_⟩
    · rw [cpM_N]; rfl
    · cases hq
      rw [cpM_57 _ i hi, cpM_58]
      show S.2.1 58 (tn (S.2.1 59 i)) = S.2.1 58 (lf p i)
      rw [(h i hi).1, tnI (by have := (h i hi).2; omega)]
  · rw [if_neg c, if_neg c]; exact hF
theorem FM.fr9 {n : Nat} {S T : St} {s : Nat × Option (List Nat)} (h : FM n S s) (hf : Fr9 S T) : FM n T s := by
  refine ⟨by rw [hf.1]; exact h.1, fun q hq i hi => ?_⟩
  rw [hf.2.1 57 (by decide), hf.2.1 58 (by decide)]
  exact h.2 q hq i hi
theorem Fr9.frM {S T : St} (h : Fr9 S T) : FrM S T := ⟨fun j _ => by rw [h.1], fun j _ h9 => h.2.1 j h9, h.2.2⟩
theorem FrM.px {S T : St} (h : FrM S T) : mpx T = mpx S ∧ mpy T = mpy S := by
  unfold mpx mpy ofM
  rw [h.2.1 58 (by decide) (by decide), h.2.1 52 (by decide) (by decide)]
  exact ⟨rfl, rfl⟩
theorem mw_fold {n : Nat} : ∀ (l : List (List Nat)) (p : List Nat) (k : Nat) (S : St) (s : Nat × Option (List Nat)), chn n (p :: l) = true → okl n (p :: l) = true → l.length < k → AG (S.2.1 59) (lf p) n → FM n S s → ∃ R, mwM n k S = some R ∧ FM n R (fo (wyl (mpx S) (mpy S)) (p :: l) s) ∧ FrM S R := by
  intro l
  induction l with
  | nil =>
    intro p k S s hc ho hk hA hF
    obtain ⟨k, rfl⟩ : ∃ j, k = j + 1 := ⟨k - 1, by simp only [List.length_nil] at hk; omega⟩
    rw [chn, Bool.and_eq_true] at hc
    have h1 : nxl n p = none := eq_of_beq hc.1
    have hl := (okl_of ho (List.mem_cons_self ..)).1
    have hu := up_fr S n
    have hg := (go_br (S := upM S n) (p := p) (by rw [hu.2.1]; exact hA)).1 h1
    refine ⟨upM S n, ?_, up_FM hl hA hF, hu.1⟩
    rw [mwM, hg, if_neg Bool.false_ne_true]
  | cons q l ih =>
    intro p k S s hc ho hk hA hF
    obtain ⟨k, rfl⟩ : ∃ j, k = j + 1 := ⟨k - 1, by simp only [List.length_cons] at hk; omega⟩
    rw [chn, Bool.and_eq_true] at hc
    have h1 : nxl n p = some q := eq_of_beq hc.1
    have hl := (okl_of ho (List.mem_cons_self ..)).1
    have hu := up_fr S n
    obtain ⟨g1, g2, g3⟩ := (go_br (S := upM S n) (p := p) (by rw [hu.2.1]; exact hA)).2 q h1
    have ho2 : okl n (q :: l) = true := by
      unfold okl at ho ⊢
      rw [List.all_cons, Bool.and_eq_true] at ho
      exact ho.2
    have hfr : FrM S (goN (upM S n) n).2 := hu.1.trans g3.frM
    obtain ⟨R, r1, r2, r3⟩ := ih q k (goN (upM S n) n).2 _ hc.2 ho2 (by simp only [List.length_cons] at hk; omega) g2 ((up_FM hl hA hF).fr9 g3)
    refine ⟨R, by rw [mwM, if_pos g1]; exact r1, ?_, hfr.trans r3⟩
    rw [hfr.px.1, hfr.px.2] at r2
    exact r2
