/-! the state of the system: numbers (fields that never are below 0), arrays, longs, the one raw int; the world that it is in the heap -/
abbrev GT : Type := va_G × ClassId × ClassId × (Nat → Nat) × Nat
abbrev St : Type := (Nat → Nat) × (Nat → Nat → Int32) × (Nat → Int64) × (Nat → Int32)
def gad (G : GT) (k : Nat) : Nat := G.2.2.2.1 k
def gci (G : GT) : ClassId := G.2.1
def gcz (G : GT) : ClassId := G.2.2.1
def gtq (G : GT) : Nat := G.2.2.2.2
def gty (G : GT) : List (ClassId × FieldType) := [(gci G, .int), (gcz G, .boolean)]
def gpull (j : Nat) : Int32 := if j = 0 then 10 else if j = 1 then 30 else 40
def sN (S : St) (k : Nat) (v : Nat) : St := (fun j => if j = k then v else S.1 j, S.2.1, S.2.2.1, S.2.2.2)
def sA (S : St) (k i : Nat) (v : Int32) : St := (S.1, fun j => if j = k then upd (S.2.1 k) i v else S.2.1 j, S.2.2.1, S.2.2.2)
def sL (S : St) (k : Nat) (v : Int64) : St := (S.1, S.2.1, fun j => if j = k then v else S.2.2.1 j, S.2.2.2)
def sR (S : St) (k : Nat) (v : Int32) : St := (S.1, S.2.1, S.2.2.1, fun j => if j = k then v else S.2.2.2 j)
def bI (b : Bool) : Int32 := match b with
  | true => 1
  | false => 0
def gws (G : GT) (S : St) : va_W := [(gad G 0, .inr (7, [.ref (gad G 1), .ref (gad G 2), .ref (gad G 3), .ref (gad G 4), .ref (gad G 5), .ref (gad G 6), .ref (gad G 7), .ref (gad G 9), .int (nI (S.1 0)), .int (nI (S.1 1)), .long (S.2.2.1 0)])),
  (gad G 1, .inr (0, [.ref (gad G 10), .int (nI (S.1 2)), .ref (gad G 11), .ref (gad G 12), .ref (gad G 13), .int (nI (S.1 3)), .int (nI (S.1 4)), .int (S.2.2.2 0), .int (nI (S.1 5))])),
  (gad G 2, .inr (3, [.ref (gad G 14), .ref (gad G 15), .ref (gad G 16), .ref (gad G 17), .ref (gad G 18), .int (nI (S.1 6))])),
  (gad G 3, .inr (2, [.ref (gad G 19), .ref (gad G 20), .ref (gad G 21), .ref (gad G 22), .ref (gad G 23), .ref (gad G 24), .ref (gad G 25), .ref (gad G 26), .ref (gad G 27), .ref (gad G 28), .ref (gad G 29), .int (nI (S.1 7))])),
  (gad G 4, .inr (4, [.ref (gad G 30), .ref (gad G 31), .ref (gad G 32), .ref (gad G 33), .int (nI (S.1 8))])),
  (gad G 5, .inr (1, [.ref (gad G 34), .ref (gad G 35), .int (nI (S.1 9))])),
  (gad G 6, .inr (5, [.ref (gad G 36), .ref (gad G 37), .ref (gad G 38), .ref (gad G 39), .int (nI (S.1 10))])),
  (gad G 7, .inr (6, [.ref (gad G 40), .ref (gad G 41), .ref (gad G 42), .ref (gad G 43), .ref (gad G 44), .ref (gad G 45), .int (nI (S.1 11)), .int (nI (S.1 12))])),
  (gad G 8, .inr (8, [.int (nI (S.1 13)), .int (nI (S.1 14)), .ref (gad G 46), .int (nI (S.1 15)), .int (nI (S.1 16)), .ref (gad G 47), .ref (gad G 48), .ref (gad G 49), .ref (gad G 50), .ref (gad G 51), .int (nI (S.1 17)), .int (nI (S.1 18)), .ref (gad G 52), .int (nI (S.1 19)), .ref (gad G 53), .int (nI (S.1 20)), .ref (gad G 54), .int (nI (S.1 21)), .ref (gad G 55), .int (nI (S.1 22)), .ref (gad G 56), .int (nI (S.1 23)), .ref (gad G 57), .ref (gad G 58), .ref (gad G 59), .int (nI (S.1 24)), .long (S.2.2.1 1)])),
  (gad G 9, .inl (gcz G, 4, .inl (S.2.1 9))),
  (gad G 10, .inl (gci G, 60, .inl (S.2.1 10))),
  (gad G 11, .inl (gci G, 30, .inl (S.2.1 11))),
  (gad G 12, .inl (gci G, 30, .inl (S.2.1 12))),
  (gad G 13, .inl (gci G, 30, .inl (S.2.1 13))),
  (gad G 14, .inl (gci G, 6, .inl (S.2.1 14))),
  (gad G 15, .inl (gci G, 7, .inl (S.2.1 15))),
  (gad G 16, .inl (gci G, 180, .inl (S.2.1 16))),
  (gad G 17, .inl (gci G, 180, .inl (S.2.1 17))),
  (gad G 18, .inl (gci G, 180, .inl (S.2.1 18))),
  (gad G 19, .inl (gci G, 12, .inl (S.2.1 19))),
  (gad G 20, .inl (gci G, 12, .inl (S.2.1 20))),
  (gad G 21, .inl (gci G, 12, .inl (S.2.1 21))),
  (gad G 22, .inl (gci G, 12, .inl (S.2.1 22))),
  (gad G 23, .inl (gci G, 12, .inl (S.2.1 23))),
  (gad G 24, .inl (gci G, 12, .inl (S.2.1 24))),
  (gad G 25, .inl (gci G, 12, .inl (S.2.1 25))),
  (gad G 26, .inl (gci G, 12, .inl (S.2.1 26))),
  (gad G 27, .inl (gci G, 12, .inl (S.2.1 27))),
  (gad G 28, .inl (gci G, 12, .inl (S.2.1 28))),
  (gad G 29, .inl (gci G, 12, .inl (S.2.1 29))),
  (gad G 30, .inl (gci G, 30, .inl (S.2.1 30))),
  (gad G 31, .inl (gci G, 30, .inl (S.2.1 31))),
  (gad G 32, .inl (gci G, 30, .inl (S.2.1 32))),
  (gad G 33, .inl (gci G, 30, .inl (S.2.1 33))),
  (gad G 34, .inl (gci G, 10, .inl (S.2.1 34))),
  (gad G 35, .inl (gci G, 10, .inl (S.2.1 35))),
  (gad G 36, .inl (gci G, 100, .inl (S.2.1 36))),
  (gad G 37, .inl (gci G, 100, .inl (S.2.1 37))),
  (gad G 38, .inl (gci G, 100, .inl (S.2.1 38))),
  (gad G 39, .inl (gci G, 100, .inl (S.2.1 39))),
  (gad G 40, .inl (gci G, 6, .inl (S.2.1 40))),
  (gad G 41, .inl (gci G, 6, .inl (S.2.1 41))),
  (gad G 42, .inl (gci G, 6, .inl (S.2.1 42))),
  (gad G 43, .inl (gcz G, 6, .inl (S.2.1 43))),
  (gad G 44, .inl (gci G, 6, .inl (S.2.1 44))),
  (gad G 45, .inl (gci G, 6, .inl (S.2.1 45))),
  (gad G 46, .inl (gci G, 60, .inl (S.2.1 46))),
  (gad G 47, .inl (gci G, 6, .inl (S.2.1 47))),
  (gad G 48, .inl (gci G, 7, .inl (S.2.1 48))),
  (gad G 49, .inl (gci G, 240, .inl (S.2.1 49))),
  (gad G 50, .inl (gci G, 240, .inl (S.2.1 50))),
  (gad G 51, .inl (gci G, 240, .inl (S.2.1 51))),
  (gad G 52, .inl (gci G, 132, .inl (S.2.1 52))),
  (gad G 53, .inl (gci G, 120, .inl (S.2.1 53))),
  (gad G 54, .inl (gci G, 20, .inl (S.2.1 54))),
  (gad G 55, .inl (gci G, 400, .inl (S.2.1 55))),
  (gad G 56, .inl (gcz G, 4, .inl (S.2.1 56))),
  (gad G 57, .inl (gci G, 6, .inl (S.2.1 57))),
  (gad G 58, .inl (gci G, 6, .inl (S.2.1 58))),
  (gad G 59, .inl (gci G, 6, .inl (S.2.1 59)))]
def gInj (G : GT) : Prop := ∀ i j : Nat, i < 60 → j < 60 → gad G i = gad G j → i = j
def gA (G : GT) (sz : Nat) : Nat → Prop := fun q => (∃ k : Nat, k < 60 ∧ q = gad G k) ∨ sz ≤ q
def gSt (G : GT) (A : Nat → Prop) (U : State) (H : Heap) : Prop := va_Z "FlueRounds$Flues" "PULL_OF_FUEL" "[I" (.ref (gtq G)) A U H ∧ va_T .int (gtq G) 3 (fun j => .int (gpull j)) A U H
theorem gws_at {G : GT} {S : St} {k : Nat} {q : Nat × va_E} (h : (gws G S)[k]? = some q) : k < 60 ∧ q.1 = gad G k := by
  have h1 : ((gws G S).map (fun x => x.1))[k]? = some q.1 := by rw [List.getElem?_map, h]; rfl
  rw [show (gws G S).map (fun x => x.1) = (List.range 60).map (gad G) from rfl, List.getElem?_map] at h1
  by_cases hk : k < 60
  · rw [List.getElem?_range hk] at h1
    exact ⟨hk, (Option.some.inj h1).symm⟩
  · rw [List.getElem?_eq_none (by simpa using hk)] at h1
    cases h1
theorem gws_D {G : GT} {S : St} {A : Nat → Prop} (hi : gInj G) (hA : ∀ k : Nat, k < 60 → A (gad G k)) : va_D A (gws G S) := by
  refine ⟨fun i j p q h1 h2 h3 => ?_, fun k q h => ?_⟩
  · obtain ⟨a1, a2⟩ := gws_at h1
    obtain ⟨b1, b2⟩ := gws_at h2
    exact hi i j a1 b1 (by rw [← a2, ← b2]; exact h3)
  · obtain ⟨a1, a2⟩ := gws_at h
    rw [a2]
    exact hA k a1
/-! the locals: a value at its place; null says nothing -/
def hasL (ls : Array Slot) (nL : Nat) (L : List Value) : Prop := ls.size = nL ∧ lv_wf ls ∧ ∀ (i : Nat) (v : Value), L[i]? = some v → v = .null ∨ ls[i]? = some (.val v)
theorem hasL.get {ls : Array Slot} {nL : Nat} {L : List Value} (h : hasL ls nL L) {i : Nat} {v : Value} (hi : L[i]? = some v) (hv : v ≠ .null) : ls[i]? = some (.val v) := (h.2.2 i v hi).resolve_left hv
def toLv (L : List Value) (n : Nat) : List (Nat × Value) := (List.range n).filterMap (fun i => match (L[i]? : Option Value) with
  | some Value.null => none
  | some v => some (i, v)
  | none => none)
theorem toLv_mem {L : List Value} {n : Nat} {q : Nat × Value} : q ∈ toLv L n ↔ q.1 < n ∧ L[q.1]? = some q.2 ∧ q.2 ≠ .null := by
  obtain ⟨a, b⟩ := q
  simp only [toLv, List.mem_filterMap, List.mem_range]
  constructor
  · rintro ⟨i, hi, h⟩
    split at h
    · cases h
    · rename_i v hv hn
      cases h
      exact ⟨hi, hn, hv⟩
    · cases h
  · rintro ⟨h1, h2, h3⟩
    refine ⟨a, h1, ?_⟩
    rw [show L[a]? = some b from h2]
    cases b <;> first | rfl | exact absurd rfl h3
theorem prevOK {L : List Value} {a : Value} {i : Nat} (h : L[i]? = some a) (hc : a.category = 1) : ∀ (j : Nat) (w : Value), j + 1 = i + 1 → L[j]? = some w → w.category = 1 := by
  intro j w hj hw
  have : j = i := by omega
  subst this
  rw [h] at hw
  cases hw
  exact hc
theorem hasL.lv {ls : Array Slot} {nL : Nat} {L : List Value} (h : hasL ls nL L) (n : Nat) : lv_has ls nL (toLv L n) :=
  ⟨h.1, h.2.1, fun q hq => by obtain ⟨h1, h2, h3⟩ := toLv_mem.mp hq; exact h.get h2 h3⟩
theorem hasL.back {ls : Array Slot} {nL : Nat} {L L' : List Value} {i n : Nat} {v : Value} (h : lv_has ls nL ((i, v) :: (toLv L n).filter (fun q => !(q.1 == i) && !(q.1 + 1 == i && q.2.category == 2))))
    (h2 : ∀ (j : Nat) (w : Value), L'[j]? = some w → w = .null ∨ (j = i ∧ w = v) ∨ (j ≠ i ∧ L[j]? = some w ∧ j < n ∧ ¬ (j + 1 = i ∧ w.category = 2))) : hasL ls nL L' := by
  refine ⟨h.1, h.2.1, fun j w hj => ?_⟩
  rcases h2 j w hj with a | ⟨a, b⟩ | ⟨a, b, c, d⟩
  · exact Or.inl a
  · subst a; subst b
    exact Or.inr (h.2.2 _ List.mem_cons_self)
  · by_cases hw : w = .null
    · exact Or.inl hw
    · refine Or.inr (h.2.2 (j, w) (List.mem_cons_of_mem _ (List.mem_filter.mpr ⟨toLv_mem.mpr ⟨c, b, hw⟩, ?_⟩)))
      simp only [Bool.and_eq_true, Bool.not_eq_true', beq_eq_false_iff_ne, ne_eq, Bool.and_eq_false_iff]
      refine ⟨a, ?_⟩
      by_cases e : j + 1 = i
      · exact Or.inr (fun z => d ⟨e, z⟩)
      · exact Or.inl e
theorem hasL.set {ls' : Array Slot} {nL : Nat} {L : List Value} {i : Nat} {v : Value} (h : lv_has ls' nL ((i, v) :: (toLv L L.length).filter (fun q => !(q.1 == i) && !(q.1 + 1 == i && q.2.category == 2)))) (hc : ∀ (j : Nat) (w : Value), j + 1 = i → L[j]? = some w → w.category = 1) : hasL ls' nL (L.set i v) := by
  refine hasL.back h (fun j w hj => ?_)
  by_cases e : j = i
  · subst e
    by_cases hl : j < L.length
    · rw [List.getElem?_set_self hl] at hj
      exact Or.inr (Or.inl ⟨rfl, (Option.some.inj hj).symm⟩)
    · rw [List.getElem?_eq_none (by simpa using hl)] at hj
      cases hj
  · rw [List.getElem?_set_ne (Ne.symm e)] at hj
    refine Or.inr (Or.inr ⟨e, hj, (List.getElem?_eq_some_iff.mp hj).1, fun z => ?_⟩)
    have := hc j w z.1 hj
    omega
theorem hasL.entry (vs : List Value) {n : Nat} (h : (lg_sl vs).length ≤ n) {L : List Value} (hL : ∀ (i : Nat) (v : Value), L[i]? = some v → v = .null ∨ (i, v) ∈ lv_args 0 vs) : hasL ((lg_sl vs ++ List.replicate (n - (lg_sl vs).length) Slot.unset).toArray) n L := by
  have h1 := lv_entry vs h
  exact ⟨h1.1, h1.2.1, fun i v hi => (hL i v hi).imp id (fun q => h1.2.2 (i, v) q)⟩
def inB (L : List Value) (l : List (Nat × Value)) : Prop := ∀ (i : Nat) (v : Value), L[i]? = some v → v = .null ∨ (i, v) ∈ l
/-- the tables' words that stay good at every call -/
def gtbl : List Cond := lw_tbl.filter goodWord
/-! the judgement: from pc, with locals L, stack st, state S, the machine comes to Q -/
abbrev XT : Type := Program × Launch × Env × Room × State × MethodId × Array Value × List Frame × Method × Code × Nat × Nat × (State → Prop) × (Nat → Prop)
def AW (X : XT) (G : GT) (pc : Nat) (L st : List Value) (S : St) : Prop := match X with
  | (p, l, e, R, s, m, args, below, meth, c, cells, slots, Q, A) => ∀ (H : Heap) (locs : List Loc) (ls : Array Slot), va_P G.1 vwCl (gws G S) H → va_S A s.heap H locs → hasL ls c.maxLocals L → W p l e R s m args below meth c H locs cells slots Q (F0 m pc ls st)
def XC (X : XT) (G : GT) (d : Nat) (own : String) (cc : ByteArray) (nL : Nat) : Prop := match X with
  | (p, l, e, R, s, m, args, below, meth, c, cells, slots, Q, A) => p.tables.exec = Jvm.exec ∧ c.code = cc ∧ c.maxLocals = nL ∧ s.vm.findClass own = some m.cls ∧ (∀ w ∈ gtbl, w.before args s = true) ∧ va_K G.1 vwCl (gty G) s ∧ gInj G ∧ (∀ k : Nat, k < 60 → A (gad G k)) ∧ (∀ q : Nat, s.heap.size ≤ q → A q) ∧ gSt G A s s.heap ∧ d + 1 ≤ R.frames ∧ 64 * (d + 1) ≤ R.locals ∧ cells ≤ R.cells ∧ slots ≤ R.slots
section AWR
variable {X : XT} {G : GT} {d : Nat} {own : String} {cc : ByteArray} {nL : Nat} {pc : Nat} {L st : List Value} {S : St}
theorem aw_iconst (hX : XC X G d own cc nL) {n : Int} {v : Int32} (hv : Int32.ofInt n = v) (hd : decode cc pc = .ok (.iconst n, 1)) (k : AW X G (pc + 1) L (.int v :: st) S) : AW X G pc L (st) S := by
  obtain ⟨p, l, e, R, s, m, args, below, meth, c, cells, slots, Q, A⟩ := X
  exact fun H locs ls hP hS hl => lv_iconst hX.1 hX.2.1 hd hv (k H locs ls hP hS hl)
theorem aw_bipush (hX : XC X G d own cc nL) {n : Int} {v : Int32} (hv : (Int8.ofInt n).toInt32 = v) (hd : decode cc pc = .ok (.bipush n, 2)) (k : AW X G (pc + 2) L (.int v :: st) S) : AW X G pc L (st) S := by
  obtain ⟨p, l, e, R, s, m, args, below, meth, c, cells, slots, Q, A⟩ := X
  exact fun H locs ls hP hS hl => lv_bipush hX.1 hX.2.1 hd hv (k H locs ls hP hS hl)
theorem aw_sipush (hX : XC X G d own cc nL) {n : Int} {v : Int32} (hv : (Int16.ofInt n).toInt32 = v) (hd : decode cc pc = .ok (.sipush n, 3)) (k : AW X G (pc + 3) L (.int v :: st) S) : AW X G pc L (st) S := by
  obtain ⟨p, l, e, R, s, m, args, below, meth, c, cells, slots, Q, A⟩ := X
  exact fun H locs ls hP hS hl => lv_sipush hX.1 hX.2.1 hd hv (k H locs ls hP hS hl)
theorem aw_lconst (hX : XC X G d own cc nL) {n : Fin 2} {v : Int64} (hv : Int64.ofNat (n : Nat) = v) (hd : decode cc pc = .ok (.lconst n, 1)) (k : AW X G (pc + 1) L (.long v :: st) S) : AW X G pc L (st) S := by
  obtain ⟨p, l, e, R, s, m, args, below, meth, c, cells, slots, Q, A⟩ := X
  exact fun H locs ls hP hS hl => lv_lconst hX.1 hX.2.1 hd hv (k H locs ls hP hS hl)
theorem aw_iadd (hX : XC X G d own cc nL) {x y : Int32} (hd : decode cc pc = .ok (.iadd, 1)) (k : AW X G (pc + 1) L (.int (x + y) :: st) S) : AW X G pc L (.int y :: .int x :: st) S := by
  obtain ⟨p, l, e, R, s, m, args, below, meth, c, cells, slots, Q, A⟩ := X
  exact fun H locs ls hP hS hl => lv_iadd hX.1 hX.2.1 hd (k H locs ls hP hS hl)
theorem aw_isub (hX : XC X G d own cc nL) {x y : Int32} (hd : decode cc pc = .ok (.isub, 1)) (k : AW X G (pc + 1) L (.int (x - y) :: st) S) : AW X G pc L (.int y :: .int x :: st) S := by
  obtain ⟨p, l, e, R, s, m, args, below, meth, c, cells, slots, Q, A⟩ := X
  exact fun H locs ls hP hS hl => lv_isub hX.1 hX.2.1 hd (k H locs ls hP hS hl)
theorem aw_imul (hX : XC X G d own cc nL) {x y : Int32} (hd : decode cc pc = .ok (.imul, 1)) (k : AW X G (pc + 1) L (.int (x * y) :: st) S) : AW X G pc L (.int y :: .int x :: st) S := by
  obtain ⟨p, l, e, R, s, m, args, below, meth, c, cells, slots, Q, A⟩ := X
  exact fun H locs ls hP hS hl => lv_imul hX.1 hX.2.1 hd (k H locs ls hP hS hl)
theorem aw_iand (hX : XC X G d own cc nL) {x y : Int32} (hd : decode cc pc = .ok (.iand, 1)) (k : AW X G (pc + 1) L (.int (x &&& y) :: st) S) : AW X G pc L (.int y :: .int x :: st) S := by
  obtain ⟨p, l, e, R, s, m, args, below, meth, c, cells, slots, Q, A⟩ := X
  exact fun H locs ls hP hS hl => lv_iand hX.1 hX.2.1 hd (k H locs ls hP hS hl)
theorem aw_ladd (hX : XC X G d own cc nL) {x y : Int64} (hd : decode cc pc = .ok (.ladd, 1)) (k : AW X G (pc + 1) L (.long (x + y) :: st) S) : AW X G pc L (.long y :: .long x :: st) S := by
  obtain ⟨p, l, e, R, s, m, args, below, meth, c, cells, slots, Q, A⟩ := X
  exact fun H locs ls hP hS hl => lv_ladd hX.1 hX.2.1 hd (k H locs ls hP hS hl)
theorem aw_land (hX : XC X G d own cc nL) {x y : Int64} (hd : decode cc pc = .ok (.land, 1)) (k : AW X G (pc + 1) L (.long (x &&& y) :: st) S) : AW X G pc L (.long y :: .long x :: st) S := by
  obtain ⟨p, l, e, R, s, m, args, below, meth, c, cells, slots, Q, A⟩ := X
  exact fun H locs ls hP hS hl => lv_land hX.1 hX.2.1 hd (k H locs ls hP hS hl)
theorem aw_lor (hX : XC X G d own cc nL) {x y : Int64} (hd : decode cc pc = .ok (.lor, 1)) (k : AW X G (pc + 1) L (.long (x ||| y) :: st) S) : AW X G pc L (.long y :: .long x :: st) S := by
  obtain ⟨p, l, e, R, s, m, args, below, meth, c, cells, slots, Q, A⟩ := X
  exact fun H locs ls hP hS hl => lv_lor hX.1 hX.2.1 hd (k H locs ls hP hS hl)
theorem aw_idiv (hX : XC X G d own cc nL) {x y : Int32} (hne : ¬ y = 0) (hd : decode cc pc = .ok (.idiv, 1)) (k : AW X G (pc + 1) L (.int (x / y) :: st) S) : AW X G pc L (.int y :: .int x :: st) S := by
  obtain ⟨p, l, e, R, s, m, args, below, meth, c, cells, slots, Q, A⟩ := X
  exact fun H locs ls hP hS hl => lv_idiv hX.1 hX.2.1 hd hne (k H locs ls hP hS hl)
theorem aw_ineg (hX : XC X G d own cc nL) {x : Int32} (hd : decode cc pc = .ok (.ineg, 1)) (k : AW X G (pc + 1) L (.int (-x) :: st) S) : AW X G pc L (.int x :: st) S := by
  obtain ⟨p, l, e, R, s, m, args, below, meth, c, cells, slots, Q, A⟩ := X
  exact fun H locs ls hP hS hl => lv_ineg hX.1 hX.2.1 hd (k H locs ls hP hS hl)
theorem aw_i2l (hX : XC X G d own cc nL) {x : Int32} (hd : decode cc pc = .ok (.i2l, 1)) (k : AW X G (pc + 1) L (.long x.toInt64 :: st) S) : AW X G pc L (.int x :: st) S := by
  obtain ⟨p, l, e, R, s, m, args, below, meth, c, cells, slots, Q, A⟩ := X
  exact fun H locs ls hP hS hl => lv_i2l hX.1 hX.2.1 hd rfl (k H locs ls hP hS hl)
theorem aw_l2i (hX : XC X G d own cc nL) {x : Int64} (hd : decode cc pc = .ok (.l2i, 1)) (k : AW X G (pc + 1) L (.int x.toInt32 :: st) S) : AW X G pc L (.long x :: st) S := by
  obtain ⟨p, l, e, R, s, m, args, below, meth, c, cells, slots, Q, A⟩ := X
  exact fun H locs ls hP hS hl => lv_l2i hX.1 hX.2.1 hd rfl (k H locs ls hP hS hl)
theorem aw_lushr (hX : XC X G d own cc nL) {x : Int64} {y : Int32} (hd : decode cc pc = .ok (.lushr, 1)) (k : AW X G (pc + 1) L (.long (x.toUInt64 >>> (y.toInt64.toUInt64 &&& Int64.toUInt64 63)).toInt64 :: st) S) : AW X G pc L (.int y :: .long x :: st) S := by
  obtain ⟨p, l, e, R, s, m, args, below, meth, c, cells, slots, Q, A⟩ := X
  exact fun H locs ls hP hS hl => lv_lushr hX.1 hX.2.1 hd rfl (k H locs ls hP hS hl)
theorem aw_lshl (hX : XC X G d own cc nL) {x : Int64} {y : Int32} (hd : decode cc pc = .ok (.lshl, 1)) (k : AW X G (pc + 1) L (.long (x <<< (y.toInt64 &&& 63)) :: st) S) : AW X G pc L (.int y :: .long x :: st) S := by
  obtain ⟨p, l, e, R, s, m, args, below, meth, c, cells, slots, Q, A⟩ := X
  exact fun H locs ls hP hS hl => lv_lshl hX.1 hX.2.1 hd rfl (k H locs ls hP hS hl)
theorem aw_lshr (hX : XC X G d own cc nL) {x : Int64} {y : Int32} (hd : decode cc pc = .ok (.lshr, 1)) (k : AW X G (pc + 1) L (.long (x >>> (y.toInt64 &&& 63)) :: st) S) : AW X G pc L (.int y :: .long x :: st) S := by
  obtain ⟨p, l, e, R, s, m, args, below, meth, c, cells, slots, Q, A⟩ := X
  exact fun H locs ls hP hS hl => lv_lshr hX.1 hX.2.1 hd rfl (k H locs ls hP hS hl)
theorem aw_lcmp (hX : XC X G d own cc nL) {x y : Int64} (hd : decode cc pc = .ok (.lcmp, 1)) (k : AW X G (pc + 1) L (.int (lg_cmp x y) :: st) S) : AW X G pc L (.long y :: .long x :: st) S := by
  obtain ⟨p, l, e, R, s, m, args, below, meth, c, cells, slots, Q, A⟩ := X
  exact fun H locs ls hP hS hl => W.lcmp hX.1 hX.2.1 hd (k H locs ls hP hS hl)
theorem aw_dup (hX : XC X G d own cc nL) {a : Value} (ha : a.category = 1) (hd : decode cc pc = .ok (.dup, 1)) (k : AW X G (pc + 1) L (a :: a :: st) S) : AW X G pc L (a :: st) S := by
  obtain ⟨p, l, e, R, s, m, args, below, meth, c, cells, slots, Q, A⟩ := X
  exact fun H locs ls hP hS hl => lv_dup hX.1 hX.2.1 hd ha (k H locs ls hP hS hl)
theorem aw_pop (hX : XC X G d own cc nL) {a : Value} (ha : a.category = 1) (hd : decode cc pc = .ok (.pop, 1)) (k : AW X G (pc + 1) L (st) S) : AW X G pc L (a :: st) S := by
  obtain ⟨p, l, e, R, s, m, args, below, meth, c, cells, slots, Q, A⟩ := X
  exact fun H locs ls hP hS hl => lv_pop hX.1 hX.2.1 hd ha (k H locs ls hP hS hl)
theorem aw_dup2 (hX : XC X G d own cc nL) {a b : Value} (ha : a.category = 1) (hb : b.category = 1) (hd : decode cc pc = .ok (.dup2, 1)) (k : AW X G (pc + 1) L (a :: b :: a :: b :: st) S) : AW X G pc L (a :: b :: st) S := by
  obtain ⟨p, l, e, R, s, m, args, below, meth, c, cells, slots, Q, A⟩ := X
  exact fun H locs ls hP hS hl => lv_dup2_11 hX.1 hX.2.1 hd ha hb (k H locs ls hP hS hl)
theorem aw_goto (hX : XC X G d own cc nL) {off : Int} {tgt : Nat} (hd : decode cc pc = .ok (.goto off, 3)) (ht : (pc : Int) + off = (tgt : Int)) (k : AW X G tgt L st S) : AW X G pc L st S := by
  obtain ⟨p, l, e, R, s, m, args, below, meth, c, cells, slots, Q, A⟩ := X
  exact fun H locs ls hP hS hl => lv_goto hX.1 hX.2.1 hd ht (k H locs ls hP hS hl)
theorem aw_ifeq (hX : XC X G d own cc nL) {x : Int32} {off : Int} {tgt : Nat} (hd : decode cc pc = .ok (.ifCond .eq off, 3)) (ht : (pc : Int) + off = (tgt : Int)) (kt : x = 0 → AW X G tgt L st S) (kf : ¬ x = 0 → AW X G (pc + 3) L st S) : AW X G pc L (.int x :: st) S := by
  obtain ⟨p, l, e, R, s, m, args, below, meth, c, cells, slots, Q, A⟩ := X
  exact fun H locs ls hP hS hl => lv_if_eq hX.1 hX.2.1 hd ht (fun h => kt h H locs ls hP hS hl) (fun h => kf h H locs ls hP hS hl)
theorem aw_icmpeq (hX : XC X G d own cc nL) {x y : Int32} {off : Int} {tgt : Nat} (hd : decode cc pc = .ok (.if_icmp .eq off, 3)) (ht : (pc : Int) + off = (tgt : Int)) (kt : x = y → AW X G tgt L st S) (kf : ¬ x = y → AW X G (pc + 3) L st S) : AW X G pc L (.int y :: .int x :: st) S := by
  obtain ⟨p, l, e, R, s, m, args, below, meth, c, cells, slots, Q, A⟩ := X
  exact fun H locs ls hP hS hl => lv_icmp_eq hX.1 hX.2.1 hd ht (fun h => kt h H locs ls hP hS hl) (fun h => kf h H locs ls hP hS hl)
theorem aw_ifne (hX : XC X G d own cc nL) {x : Int32} {off : Int} {tgt : Nat} (hd : decode cc pc = .ok (.ifCond .ne off, 3)) (ht : (pc : Int) + off = (tgt : Int)) (kt : ¬ x = 0 → AW X G tgt L st S) (kf : x = 0 → AW X G (pc + 3) L st S) : AW X G pc L (.int x :: st) S := by
  obtain ⟨p, l, e, R, s, m, args, below, meth, c, cells, slots, Q, A⟩ := X
  exact fun H locs ls hP hS hl => lv_if_ne hX.1 hX.2.1 hd ht (fun h => kt h H locs ls hP hS hl) (fun h => kf h H locs ls hP hS hl)
theorem aw_icmpne (hX : XC X G d own cc nL) {x y : Int32} {off : Int} {tgt : Nat} (hd : decode cc pc = .ok (.if_icmp .ne off, 3)) (ht : (pc : Int) + off = (tgt : Int)) (kt : ¬ x = y → AW X G tgt L st S) (kf : x = y → AW X G (pc + 3) L st S) : AW X G pc L (.int y :: .int x :: st) S := by
  obtain ⟨p, l, e, R, s, m, args, below, meth, c, cells, slots, Q, A⟩ := X
  exact fun H locs ls hP hS hl => lv_icmp_ne hX.1 hX.2.1 hd ht (fun h => kt h H locs ls hP hS hl) (fun h => kf h H locs ls hP hS hl)
theorem aw_iflt (hX : XC X G d own cc nL) {x : Int32} {off : Int} {tgt : Nat} (hd : decode cc pc = .ok (.ifCond .lt off, 3)) (ht : (pc : Int) + off = (tgt : Int)) (kt : x < 0 → AW X G tgt L st S) (kf : ¬ x < 0 → AW X G (pc + 3) L st S) : AW X G pc L (.int x :: st) S := by
  obtain ⟨p, l, e, R, s, m, args, below, meth, c, cells, slots, Q, A⟩ := X
  exact fun H locs ls hP hS hl => lv_if_lt hX.1 hX.2.1 hd ht (fun h => kt h H locs ls hP hS hl) (fun h => kf h H locs ls hP hS hl)
theorem aw_icmplt (hX : XC X G d own cc nL) {x y : Int32} {off : Int} {tgt : Nat} (hd : decode cc pc = .ok (.if_icmp .lt off, 3)) (ht : (pc : Int) + off = (tgt : Int)) (kt : x < y → AW X G tgt L st S) (kf : ¬ x < y → AW X G (pc + 3) L st S) : AW X G pc L (.int y :: .int x :: st) S := by
  obtain ⟨p, l, e, R, s, m, args, below, meth, c, cells, slots, Q, A⟩ := X
  exact fun H locs ls hP hS hl => lv_icmp_lt hX.1 hX.2.1 hd ht (fun h => kt h H locs ls hP hS hl) (fun h => kf h H locs ls hP hS hl)
theorem aw_ifge (hX : XC X G d own cc nL) {x : Int32} {off : Int} {tgt : Nat} (hd : decode cc pc = .ok (.ifCond .ge off, 3)) (ht : (pc : Int) + off = (tgt : Int)) (kt : 0 ≤ x → AW X G tgt L st S) (kf : ¬ 0 ≤ x → AW X G (pc + 3) L st S) : AW X G pc L (.int x :: st) S := by
  obtain ⟨p, l, e, R, s, m, args, below, meth, c, cells, slots, Q, A⟩ := X
  exact fun H locs ls hP hS hl => lv_if_ge hX.1 hX.2.1 hd ht (fun h => kt h H locs ls hP hS hl) (fun h => kf h H locs ls hP hS hl)
theorem aw_icmpge (hX : XC X G d own cc nL) {x y : Int32} {off : Int} {tgt : Nat} (hd : decode cc pc = .ok (.if_icmp .ge off, 3)) (ht : (pc : Int) + off = (tgt : Int)) (kt : y ≤ x → AW X G tgt L st S) (kf : ¬ y ≤ x → AW X G (pc + 3) L st S) : AW X G pc L (.int y :: .int x :: st) S := by
  obtain ⟨p, l, e, R, s, m, args, below, meth, c, cells, slots, Q, A⟩ := X
  exact fun H locs ls hP hS hl => lv_icmp_ge hX.1 hX.2.1 hd ht (fun h => kt h H locs ls hP hS hl) (fun h => kf h H locs ls hP hS hl)
theorem aw_ifgt (hX : XC X G d own cc nL) {x : Int32} {off : Int} {tgt : Nat} (hd : decode cc pc = .ok (.ifCond .gt off, 3)) (ht : (pc : Int) + off = (tgt : Int)) (kt : 0 < x → AW X G tgt L st S) (kf : ¬ 0 < x → AW X G (pc + 3) L st S) : AW X G pc L (.int x :: st) S := by
  obtain ⟨p, l, e, R, s, m, args, below, meth, c, cells, slots, Q, A⟩ := X
  exact fun H locs ls hP hS hl => lv_if_gt hX.1 hX.2.1 hd ht (fun h => kt h H locs ls hP hS hl) (fun h => kf h H locs ls hP hS hl)
theorem aw_icmpgt (hX : XC X G d own cc nL) {x y : Int32} {off : Int} {tgt : Nat} (hd : decode cc pc = .ok (.if_icmp .gt off, 3)) (ht : (pc : Int) + off = (tgt : Int)) (kt : y < x → AW X G tgt L st S) (kf : ¬ y < x → AW X G (pc + 3) L st S) : AW X G pc L (.int y :: .int x :: st) S := by
  obtain ⟨p, l, e, R, s, m, args, below, meth, c, cells, slots, Q, A⟩ := X
  exact fun H locs ls hP hS hl => lv_icmp_gt hX.1 hX.2.1 hd ht (fun h => kt h H locs ls hP hS hl) (fun h => kf h H locs ls hP hS hl)
theorem aw_ifle (hX : XC X G d own cc nL) {x : Int32} {off : Int} {tgt : Nat} (hd : decode cc pc = .ok (.ifCond .le off, 3)) (ht : (pc : Int) + off = (tgt : Int)) (kt : x ≤ 0 → AW X G tgt L st S) (kf : ¬ x ≤ 0 → AW X G (pc + 3) L st S) : AW X G pc L (.int x :: st) S := by
  obtain ⟨p, l, e, R, s, m, args, below, meth, c, cells, slots, Q, A⟩ := X
  exact fun H locs ls hP hS hl => lv_if_le hX.1 hX.2.1 hd ht (fun h => kt h H locs ls hP hS hl) (fun h => kf h H locs ls hP hS hl)
theorem aw_icmple (hX : XC X G d own cc nL) {x y : Int32} {off : Int} {tgt : Nat} (hd : decode cc pc = .ok (.if_icmp .le off, 3)) (ht : (pc : Int) + off = (tgt : Int)) (kt : x ≤ y → AW X G tgt L st S) (kf : ¬ x ≤ y → AW X G (pc + 3) L st S) : AW X G pc L (.int y :: .int x :: st) S := by
  obtain ⟨p, l, e, R, s, m, args, below, meth, c, cells, slots, Q, A⟩ := X
  exact fun H locs ls hP hS hl => lv_icmp_le hX.1 hX.2.1 hd ht (fun h => kt h H locs ls hP hS hl) (fun h => kf h H locs ls hP hS hl)
theorem aw_icmpeqN (hX : XC X G d own cc nL) {x y : Nat} {off : Int} {tgt : Nat} (hd : decode cc pc = .ok (.if_icmp .eq off, 3)) (ht : (pc : Int) + off = (tgt : Int)) (hx : x < 2 ^ 31) (hy : y < 2 ^ 31) (kt : x = y → AW X G tgt L st S) (kf : ¬ x = y → AW X G (pc + 3) L st S) : AW X G pc L (.int (nI y) :: .int (nI x) :: st) S :=
  aw_icmpeq hX hd ht (fun h => kt ((nI_eq hx hy).mp h)) (fun h => kf (fun z => h ((nI_eq hx hy).mpr z)))
theorem aw_icmpneN (hX : XC X G d own cc nL) {x y : Nat} {off : Int} {tgt : Nat} (hd : decode cc pc = .ok (.if_icmp .ne off, 3)) (ht : (pc : Int) + off = (tgt : Int)) (hx : x < 2 ^ 31) (hy : y < 2 ^ 31) (kt : ¬ x = y → AW X G tgt L st S) (kf : x = y → AW X G (pc + 3) L st S) : AW X G pc L (.int (nI y) :: .int (nI x) :: st) S :=
  aw_icmpne hX hd ht (fun h => kt (fun z => h ((nI_eq hx hy).mpr z))) (fun h => kf ((nI_eq hx hy).mp h))
theorem aw_icmpltN (hX : XC X G d own cc nL) {x y : Nat} {off : Int} {tgt : Nat} (hd : decode cc pc = .ok (.if_icmp .lt off, 3)) (ht : (pc : Int) + off = (tgt : Int)) (hx : x < 2 ^ 31) (hy : y < 2 ^ 31) (kt : x < y → AW X G tgt L st S) (kf : y ≤ x → AW X G (pc + 3) L st S) : AW X G pc L (.int (nI y) :: .int (nI x) :: st) S :=
  aw_icmplt hX hd ht (fun h => kt ((nI_ltI hx hy).mp h)) (fun h => kf (Nat.not_lt.mp fun z => h ((nI_ltI hx hy).mpr z)))
theorem aw_icmpgeN (hX : XC X G d own cc nL) {x y : Nat} {off : Int} {tgt : Nat} (hd : decode cc pc = .ok (.if_icmp .ge off, 3)) (ht : (pc : Int) + off = (tgt : Int)) (hx : x < 2 ^ 31) (hy : y < 2 ^ 31) (kt : y ≤ x → AW X G tgt L st S) (kf : x < y → AW X G (pc + 3) L st S) : AW X G pc L (.int (nI y) :: .int (nI x) :: st) S :=
  aw_icmpge hX hd ht (fun h => kt ((nI_leI hy hx).mp h)) (fun h => kf (Nat.not_le.mp fun z => h ((nI_leI hy hx).mpr z)))
theorem aw_icmpgtN (hX : XC X G d own cc nL) {x y : Nat} {off : Int} {tgt : Nat} (hd : decode cc pc = .ok (.if_icmp .gt off, 3)) (ht : (pc : Int) + off = (tgt : Int)) (hx : x < 2 ^ 31) (hy : y < 2 ^ 31) (kt : y < x → AW X G tgt L st S) (kf : x ≤ y → AW X G (pc + 3) L st S) : AW X G pc L (.int (nI y) :: .int (nI x) :: st) S :=
  aw_icmpgt hX hd ht (fun h => kt ((nI_ltI hy hx).mp h)) (fun h => kf (Nat.not_lt.mp fun z => h ((nI_ltI hy hx).mpr z)))
theorem aw_icmpleN (hX : XC X G d own cc nL) {x y : Nat} {off : Int} {tgt : Nat} (hd : decode cc pc = .ok (.if_icmp .le off, 3)) (ht : (pc : Int) + off = (tgt : Int)) (hx : x < 2 ^ 31) (hy : y < 2 ^ 31) (kt : x ≤ y → AW X G tgt L st S) (kf : y < x → AW X G (pc + 3) L st S) : AW X G pc L (.int (nI y) :: .int (nI x) :: st) S :=
  aw_icmple hX hd ht (fun h => kt ((nI_leI hx hy).mp h)) (fun h => kf (Nat.not_le.mp fun z => h ((nI_leI hx hy).mpr z)))
theorem bI_0 {b : Bool} : bI b = 0 ↔ b = false := by cases b <;> simp [bI]
theorem aw_ifeqB (hX : XC X G d own cc nL) {b : Bool} {off : Int} {tgt : Nat} (hd : decode cc pc = .ok (.ifCond .eq off, 3)) (ht : (pc : Int) + off = (tgt : Int)) (kt : b = false → AW X G tgt L st S) (kf : b = true → AW X G (pc + 3) L st S) : AW X G pc L (.int (bI b) :: st) S :=
  aw_ifeq hX hd ht (fun h => kt (bI_0.mp h)) (fun h => kf (by cases b; exact absurd rfl h; rfl))
theorem aw_ifneB (hX : XC X G d own cc nL) {b : Bool} {off : Int} {tgt : Nat} (hd : decode cc pc = .ok (.ifCond .ne off, 3)) (ht : (pc : Int) + off = (tgt : Int)) (kt : b = true → AW X G tgt L st S) (kf : b = false → AW X G (pc + 3) L st S) : AW X G pc L (.int (bI b) :: st) S :=
  aw_ifne hX hd ht (fun h => kt (by cases b; exact absurd rfl h; rfl)) (fun h => kf (bI_0.mp h))
theorem aw_iaddN (hX : XC X G d own cc nL) {x y : Nat} (hd : decode cc pc = .ok (.iadd, 1)) (k : AW X G (pc + 1) L (.int (nI (x + y)) :: st) S) : AW X G pc L (.int (nI y) :: .int (nI x) :: st) S := by
  obtain ⟨p, l, e, R, s, m, args, below, meth, c, cells, slots, Q, A⟩ := X
  exact fun H locs ls hP hS hl => lv_iadd hX.1 hX.2.1 hd (by rw [nI_add]; exact (k H locs ls hP hS hl))
theorem aw_imulN (hX : XC X G d own cc nL) {x y : Nat} (hd : decode cc pc = .ok (.imul, 1)) (k : AW X G (pc + 1) L (.int (nI (x * y)) :: st) S) : AW X G pc L (.int (nI y) :: .int (nI x) :: st) S := by
  obtain ⟨p, l, e, R, s, m, args, below, meth, c, cells, slots, Q, A⟩ := X
  exact fun H locs ls hP hS hl => lv_imul hX.1 hX.2.1 hd (by rw [pk_mul]; exact (k H locs ls hP hS hl))
theorem aw_isubN (hX : XC X G d own cc nL) {x y : Nat} (hle : y ≤ x) (hd : decode cc pc = .ok (.isub, 1)) (k : AW X G (pc + 1) L (.int (nI (x - y)) :: st) S) : AW X G pc L (.int (nI y) :: .int (nI x) :: st) S := by
  obtain ⟨p, l, e, R, s, m, args, below, meth, c, cells, slots, Q, A⟩ := X
  exact fun H locs ls hP hS hl => lv_isub hX.1 hX.2.1 hd (by rw [pk_sub hle]; exact (k H locs ls hP hS hl))
theorem aw_ti {x y : Int32} (h : x = y) (k : AW X G pc L (.int y :: st) S) : AW X G pc L (.int x :: st) S := h ▸ k
theorem aw_ti2 {x y : Int32} {a : Value} (h : x = y) (k : AW X G pc L (a :: .int y :: st) S) : AW X G pc L (a :: .int x :: st) S := h ▸ k
theorem aw_tl {x y : Int64} (h : x = y) (k : AW X G pc L (.long y :: st) S) : AW X G pc L (.long x :: st) S := h ▸ k
theorem aw_S {S' : St} (h : S = S') (k : AW X G pc L st S') : AW X G pc L st S := h ▸ k
theorem aw_finI {S' : St} {x y : Int32} (k : AW X G pc L [.int y] S') (h : x = y) (h2 : S = S') : AW X G pc L [.int x] S := by subst h; subst h2; exact k
theorem aw_finL {S' : St} {x y : Int64} (k : AW X G pc L [.long y] S') (h : x = y) (h2 : S = S') : AW X G pc L [.long x] S := by subst h; subst h2; exact k
theorem aw_finV {S' : St} (k : AW X G pc L [] S') (h2 : S = S') : AW X G pc L [] S := by subst h2; exact k
theorem aw_iload_0 (hX : XC X G d own cc nL) {x : Int32} {t : List Value} (hd : decode cc pc = .ok (.iload_n 0, 1)) (k : AW X G (pc + 1) (.int x :: t) (.int x :: st) S) : AW X G pc (.int x :: t) (st) S := by
  obtain ⟨p, l, e, R, s, m, args, below, meth, c, cells, slots, Q, A⟩ := X
  exact fun H locs ls hP hS hl => lv_iload_n hX.1 hX.2.1 hd rfl (hl.get (i := 0) rfl (by intro h; cases h)) (k H locs ls hP hS hl)
theorem aw_aload_0 (hX : XC X G d own cc nL) {x : Nat} {t : List Value} (hd : decode cc pc = .ok (.aload_n 0, 1)) (k : AW X G (pc + 1) (.ref x :: t) (.ref x :: st) S) : AW X G pc (.ref x :: t) (st) S := by
  obtain ⟨p, l, e, R, s, m, args, below, meth, c, cells, slots, Q, A⟩ := X
  exact fun H locs ls hP hS hl => lv_aload_n hX.1 hX.2.1 hd rfl (hl.get (i := 0) rfl (by intro h; cases h)) (k H locs ls hP hS hl)
theorem aw_istore_0 (hX : XC X G d own cc nL) {x : Int32} {b : Value} {t : List Value} (hn : 0 < nL) (hd : decode cc pc = .ok (.istore_n 0, 1)) (k : AW X G (pc + 1) (.int x :: t) (st) S) : AW X G pc (b :: t) (.int x :: st) S := by
  obtain ⟨p, l, e, R, s, m, args, below, meth, c, cells, slots, Q, A⟩ := X
  exact fun H locs ls hP hS hl => lv_istore_n hX.1 hX.2.1 hd rfl (hl.lv _) (by rw [hX.2.2.1]; exact hn) rfl (fun ls2 hl2 => k H locs ls2 hP hS (hasL.set hl2 (by intro j w hj; omega)))
theorem aw_iload_1 (hX : XC X G d own cc nL) {a0 : Value} {x : Int32} {t : List Value} (hd : decode cc pc = .ok (.iload_n 1, 1)) (k : AW X G (pc + 1) (a0 :: .int x :: t) (.int x :: st) S) : AW X G pc (a0 :: .int x :: t) (st) S := by
  obtain ⟨p, l, e, R, s, m, args, below, meth, c, cells, slots, Q, A⟩ := X
  exact fun H locs ls hP hS hl => lv_iload_n hX.1 hX.2.1 hd rfl (hl.get (i := 1) rfl (by intro h; cases h)) (k H locs ls hP hS hl)
theorem aw_aload_1 (hX : XC X G d own cc nL) {a0 : Value} {x : Nat} {t : List Value} (hd : decode cc pc = .ok (.aload_n 1, 1)) (k : AW X G (pc + 1) (a0 :: .ref x :: t) (.ref x :: st) S) : AW X G pc (a0 :: .ref x :: t) (st) S := by
  obtain ⟨p, l, e, R, s, m, args, below, meth, c, cells, slots, Q, A⟩ := X
  exact fun H locs ls hP hS hl => lv_aload_n hX.1 hX.2.1 hd rfl (hl.get (i := 1) rfl (by intro h; cases h)) (k H locs ls hP hS hl)
theorem aw_lload_1 (hX : XC X G d own cc nL) {a0 : Value} {x : Int64} {t : List Value} (hd : decode cc pc = .ok (.lload_n 1, 1)) (k : AW X G (pc + 1) (a0 :: .long x :: t) (.long x :: st) S) : AW X G pc (a0 :: .long x :: t) (st) S := by
  obtain ⟨p, l, e, R, s, m, args, below, meth, c, cells, slots, Q, A⟩ := X
  exact fun H locs ls hP hS hl => lv_lload_n hX.1 hX.2.1 hd rfl (hl.get (i := 1) rfl (by intro h; cases h)) (k H locs ls hP hS hl)
theorem aw_istore_1 (hX : XC X G d own cc nL) {a0 : Value} {x : Int32} {b : Value} {t : List Value} (hc : a0.category = 1) (hn : 1 < nL) (hd : decode cc pc = .ok (.istore_n 1, 1)) (k : AW X G (pc + 1) (a0 :: .int x :: t) (st) S) : AW X G pc (a0 :: b :: t) (.int x :: st) S := by
  obtain ⟨p, l, e, R, s, m, args, below, meth, c, cells, slots, Q, A⟩ := X
  exact fun H locs ls hP hS hl => lv_istore_n hX.1 hX.2.1 hd rfl (hl.lv _) (by rw [hX.2.2.1]; exact hn) rfl (fun ls2 hl2 => k H locs ls2 hP hS (hasL.set hl2 (prevOK (a := a0) (i := 0) rfl hc)))
theorem aw_astore_1 (hX : XC X G d own cc nL) {a0 : Value} {x : Nat} {b : Value} {t : List Value} (hc : a0.category = 1) (hn : 1 < nL) (hd : decode cc pc = .ok (.astore_n 1, 1)) (k : AW X G (pc + 1) (a0 :: .ref x :: t) (st) S) : AW X G pc (a0 :: b :: t) (.ref x :: st) S := by
  obtain ⟨p, l, e, R, s, m, args, below, meth, c, cells, slots, Q, A⟩ := X
  exact fun H locs ls hP hS hl => lv_astore_n hX.1 hX.2.1 hd rfl (hl.lv _) (by rw [hX.2.2.1]; exact hn) rfl (fun ls2 hl2 => k H locs ls2 hP hS (hasL.set hl2 (prevOK (a := a0) (i := 0) rfl hc)))
theorem aw_iinc_1 (hX : XC X G d own cc nL) {a0 : Value} {x : Int32} {n : Int} {t : List Value} (hc : a0.category = 1) (hn : 1 < nL) (hd : decode cc pc = .ok (.iinc 1 n, 3)) (k : AW X G (pc + 3) (a0 :: .int (x + Int32.ofInt n) :: t) st S) : AW X G pc (a0 :: .int x :: t) st S := by
  obtain ⟨p, l, e, R, s, m, args, below, meth, c, cells, slots, Q, A⟩ := X
  intro H locs ls hP hS hl
  have hm : (1, Value.int x) ∈ toLv (a0 :: .int x :: t) (a0 :: .int x :: t).length := toLv_mem.mpr ⟨by simp, rfl, by intro h; cases h⟩
  obtain ⟨k0, hk0⟩ := List.getElem?_of_mem hm
  exact lv_iinc hX.1 hX.2.1 hd (hl.lv _) hk0 rfl (by rw [hX.2.2.1]; exact hn) rfl (fun ls2 hl2 => k H locs ls2 hP hS (hasL.set hl2 (prevOK (a := a0) (i := 0) rfl hc)))
theorem aw_iinc_1N (hX : XC X G d own cc nL) {a0 : Value} {x : Nat} {t : List Value} (hc : a0.category = 1) (hn : 1 < nL) (hd : decode cc pc = .ok (.iinc 1 1, 3)) (k : AW X G (pc + 3) (a0 :: .int (nI (x + 1)) :: t) st S) : AW X G pc (a0 :: .int (nI x) :: t) st S :=
  aw_iinc_1 hX hc hn hd (by rw [show nI x + Int32.ofInt 1 = nI (x + 1) from nI_1 x]; exact k)
theorem aw_iload_2 (hX : XC X G d own cc nL) {a0 a1 : Value} {x : Int32} {t : List Value} (hd : decode cc pc = .ok (.iload_n 2, 1)) (k : AW X G (pc + 1) (a0 :: a1 :: .int x :: t) (.int x :: st) S) : AW X G pc (a0 :: a1 :: .int x :: t) (st) S := by
  obtain ⟨p, l, e, R, s, m, args, below, meth, c, cells, slots, Q, A⟩ := X
  exact fun H locs ls hP hS hl => lv_iload_n hX.1 hX.2.1 hd rfl (hl.get (i := 2) rfl (by intro h; cases h)) (k H locs ls hP hS hl)
theorem aw_aload_2 (hX : XC X G d own cc nL) {a0 a1 : Value} {x : Nat} {t : List Value} (hd : decode cc pc = .ok (.aload_n 2, 1)) (k : AW X G (pc + 1) (a0 :: a1 :: .ref x :: t) (.ref x :: st) S) : AW X G pc (a0 :: a1 :: .ref x :: t) (st) S := by
  obtain ⟨p, l, e, R, s, m, args, below, meth, c, cells, slots, Q, A⟩ := X
  exact fun H locs ls hP hS hl => lv_aload_n hX.1 hX.2.1 hd rfl (hl.get (i := 2) rfl (by intro h; cases h)) (k H locs ls hP hS hl)
theorem aw_istore_2 (hX : XC X G d own cc nL) {a0 a1 : Value} {x : Int32} {b : Value} {t : List Value} (hc : a1.category = 1) (hn : 2 < nL) (hd : decode cc pc = .ok (.istore_n 2, 1)) (k : AW X G (pc + 1) (a0 :: a1 :: .int x :: t) (st) S) : AW X G pc (a0 :: a1 :: b :: t) (.int x :: st) S := by
  obtain ⟨p, l, e, R, s, m, args, below, meth, c, cells, slots, Q, A⟩ := X
  exact fun H locs ls hP hS hl => lv_istore_n hX.1 hX.2.1 hd rfl (hl.lv _) (by rw [hX.2.2.1]; exact hn) rfl (fun ls2 hl2 => k H locs ls2 hP hS (hasL.set hl2 (prevOK (a := a1) (i := 1) rfl hc)))
theorem aw_astore_2 (hX : XC X G d own cc nL) {a0 a1 : Value} {x : Nat} {b : Value} {t : List Value} (hc : a1.category = 1) (hn : 2 < nL) (hd : decode cc pc = .ok (.astore_n 2, 1)) (k : AW X G (pc + 1) (a0 :: a1 :: .ref x :: t) (st) S) : AW X G pc (a0 :: a1 :: b :: t) (.ref x :: st) S := by
  obtain ⟨p, l, e, R, s, m, args, below, meth, c, cells, slots, Q, A⟩ := X
  exact fun H locs ls hP hS hl => lv_astore_n hX.1 hX.2.1 hd rfl (hl.lv _) (by rw [hX.2.2.1]; exact hn) rfl (fun ls2 hl2 => k H locs ls2 hP hS (hasL.set hl2 (prevOK (a := a1) (i := 1) rfl hc)))
theorem aw_iinc_2 (hX : XC X G d own cc nL) {a0 a1 : Value} {x : Int32} {n : Int} {t : List Value} (hc : a1.category = 1) (hn : 2 < nL) (hd : decode cc pc = .ok (.iinc 2 n, 3)) (k : AW X G (pc + 3) (a0 :: a1 :: .int (x + Int32.ofInt n) :: t) st S) : AW X G pc (a0 :: a1 :: .int x :: t) st S := by
  obtain ⟨p, l, e, R, s, m, args, below, meth, c, cells, slots, Q, A⟩ := X
  intro H locs ls hP hS hl
  have hm : (2, Value.int x) ∈ toLv (a0 :: a1 :: .int x :: t) (a0 :: a1 :: .int x :: t).length := toLv_mem.mpr ⟨by simp, rfl, by intro h; cases h⟩
  obtain ⟨k0, hk0⟩ := List.getElem?_of_mem hm
  exact lv_iinc hX.1 hX.2.1 hd (hl.lv _) hk0 rfl (by rw [hX.2.2.1]; exact hn) rfl (fun ls2 hl2 => k H locs ls2 hP hS (hasL.set hl2 (prevOK (a := a1) (i := 1) rfl hc)))
theorem aw_iinc_2N (hX : XC X G d own cc nL) {a0 a1 : Value} {x : Nat} {t : List Value} (hc : a1.category = 1) (hn : 2 < nL) (hd : decode cc pc = .ok (.iinc 2 1, 3)) (k : AW X G (pc + 3) (a0 :: a1 :: .int (nI (x + 1)) :: t) st S) : AW X G pc (a0 :: a1 :: .int (nI x) :: t) st S :=
  aw_iinc_2 hX hc hn hd (by rw [show nI x + Int32.ofInt 1 = nI (x + 1) from nI_1 x]; exact k)
theorem aw_iload_3 (hX : XC X G d own cc nL) {a0 a1 a2 : Value} {x : Int32} {t : List Value} (hd : decode cc pc = .ok (.iload_n 3, 1)) (k : AW X G (pc + 1) (a0 :: a1 :: a2 :: .int x :: t) (.int x :: st) S) : AW X G pc (a0 :: a1 :: a2 :: .int x :: t) (st) S := by
  obtain ⟨p, l, e, R, s, m, args, below, meth, c, cells, slots, Q, A⟩ := X
  exact fun H locs ls hP hS hl => lv_iload_n hX.1 hX.2.1 hd rfl (hl.get (i := 3) rfl (by intro h; cases h)) (k H locs ls hP hS hl)
theorem aw_istore_3 (hX : XC X G d own cc nL) {a0 a1 a2 : Value} {x : Int32} {b : Value} {t : List Value} (hc : a2.category = 1) (hn : 3 < nL) (hd : decode cc pc = .ok (.istore_n 3, 1)) (k : AW X G (pc + 1) (a0 :: a1 :: a2 :: .int x :: t) (st) S) : AW X G pc (a0 :: a1 :: a2 :: b :: t) (.int x :: st) S := by
  obtain ⟨p, l, e, R, s, m, args, below, meth, c, cells, slots, Q, A⟩ := X
  exact fun H locs ls hP hS hl => lv_istore_n hX.1 hX.2.1 hd rfl (hl.lv _) (by rw [hX.2.2.1]; exact hn) rfl (fun ls2 hl2 => k H locs ls2 hP hS (hasL.set hl2 (prevOK (a := a2) (i := 2) rfl hc)))
theorem aw_iinc_3 (hX : XC X G d own cc nL) {a0 a1 a2 : Value} {x : Int32} {n : Int} {t : List Value} (hc : a2.category = 1) (hn : 3 < nL) (hd : decode cc pc = .ok (.iinc 3 n, 3)) (k : AW X G (pc + 3) (a0 :: a1 :: a2 :: .int (x + Int32.ofInt n) :: t) st S) : AW X G pc (a0 :: a1 :: a2 :: .int x :: t) st S := by
  obtain ⟨p, l, e, R, s, m, args, below, meth, c, cells, slots, Q, A⟩ := X
  intro H locs ls hP hS hl
  have hm : (3, Value.int x) ∈ toLv (a0 :: a1 :: a2 :: .int x :: t) (a0 :: a1 :: a2 :: .int x :: t).length := toLv_mem.mpr ⟨by simp, rfl, by intro h; cases h⟩
  obtain ⟨k0, hk0⟩ := List.getElem?_of_mem hm
  exact lv_iinc hX.1 hX.2.1 hd (hl.lv _) hk0 rfl (by rw [hX.2.2.1]; exact hn) rfl (fun ls2 hl2 => k H locs ls2 hP hS (hasL.set hl2 (prevOK (a := a2) (i := 2) rfl hc)))
theorem aw_iinc_3N (hX : XC X G d own cc nL) {a0 a1 a2 : Value} {x : Nat} {t : List Value} (hc : a2.category = 1) (hn : 3 < nL) (hd : decode cc pc = .ok (.iinc 3 1, 3)) (k : AW X G (pc + 3) (a0 :: a1 :: a2 :: .int (nI (x + 1)) :: t) st S) : AW X G pc (a0 :: a1 :: a2 :: .int (nI x) :: t) st S :=
  aw_iinc_3 hX hc hn hd (by rw [show nI x + Int32.ofInt 1 = nI (x + 1) from nI_1 x]; exact k)
theorem aw_iload_4 (hX : XC X G d own cc nL) {a0 a1 a2 a3 : Value} {x : Int32} {t : List Value} (hd : decode cc pc = .ok (.iload 4, 2)) (k : AW X G (pc + 2) (a0 :: a1 :: a2 :: a3 :: .int x :: t) (.int x :: st) S) : AW X G pc (a0 :: a1 :: a2 :: a3 :: .int x :: t) (st) S := by
  obtain ⟨p, l, e, R, s, m, args, below, meth, c, cells, slots, Q, A⟩ := X
  exact fun H locs ls hP hS hl => lv_iload hX.1 hX.2.1 hd (hl.get (i := 4) rfl (by intro h; cases h)) (k H locs ls hP hS hl)
theorem aw_istore_4 (hX : XC X G d own cc nL) {a0 a1 a2 a3 : Value} {x : Int32} {b : Value} {t : List Value} (hc : a3.category = 1) (hn : 4 < nL) (hd : decode cc pc = .ok (.istore 4, 2)) (k : AW X G (pc + 2) (a0 :: a1 :: a2 :: a3 :: .int x :: t) (st) S) : AW X G pc (a0 :: a1 :: a2 :: a3 :: b :: t) (.int x :: st) S := by
  obtain ⟨p, l, e, R, s, m, args, below, meth, c, cells, slots, Q, A⟩ := X
  exact fun H locs ls hP hS hl => lv_istore hX.1 hX.2.1 hd (hl.lv _) (by rw [hX.2.2.1]; exact hn) rfl (fun ls2 hl2 => k H locs ls2 hP hS (hasL.set hl2 (prevOK (a := a3) (i := 3) rfl hc)))
theorem aw_iinc_4 (hX : XC X G d own cc nL) {a0 a1 a2 a3 : Value} {x : Int32} {n : Int} {t : List Value} (hc : a3.category = 1) (hn : 4 < nL) (hd : decode cc pc = .ok (.iinc 4 n, 3)) (k : AW X G (pc + 3) (a0 :: a1 :: a2 :: a3 :: .int (x + Int32.ofInt n) :: t) st S) : AW X G pc (a0 :: a1 :: a2 :: a3 :: .int x :: t) st S := by
  obtain ⟨p, l, e, R, s, m, args, below, meth, c, cells, slots, Q, A⟩ := X
  intro H locs ls hP hS hl
  have hm : (4, Value.int x) ∈ toLv (a0 :: a1 :: a2 :: a3 :: .int x :: t) (a0 :: a1 :: a2 :: a3 :: .int x :: t).length := toLv_mem.mpr ⟨by simp, rfl, by intro h; cases h⟩
  obtain ⟨k0, hk0⟩ := List.getElem?_of_mem hm
  exact lv_iinc hX.1 hX.2.1 hd (hl.lv _) hk0 rfl (by rw [hX.2.2.1]; exact hn) rfl (fun ls2 hl2 => k H locs ls2 hP hS (hasL.set hl2 (prevOK (a := a3) (i := 3) rfl hc)))
theorem aw_iinc_4N (hX : XC X G d own cc nL) {a0 a1 a2 a3 : Value} {x : Nat} {t : List Value} (hc : a3.category = 1) (hn : 4 < nL) (hd : decode cc pc = .ok (.iinc 4 1, 3)) (k : AW X G (pc + 3) (a0 :: a1 :: a2 :: a3 :: .int (nI (x + 1)) :: t) st S) : AW X G pc (a0 :: a1 :: a2 :: a3 :: .int (nI x) :: t) st S :=
  aw_iinc_4 hX hc hn hd (by rw [show nI x + Int32.ofInt 1 = nI (x + 1) from nI_1 x]; exact k)
theorem aw_iload_5 (hX : XC X G d own cc nL) {a0 a1 a2 a3 a4 : Value} {x : Int32} {t : List Value} (hd : decode cc pc = .ok (.iload 5, 2)) (k : AW X G (pc + 2) (a0 :: a1 :: a2 :: a3 :: a4 :: .int x :: t) (.int x :: st) S) : AW X G pc (a0 :: a1 :: a2 :: a3 :: a4 :: .int x :: t) (st) S := by
  obtain ⟨p, l, e, R, s, m, args, below, meth, c, cells, slots, Q, A⟩ := X
  exact fun H locs ls hP hS hl => lv_iload hX.1 hX.2.1 hd (hl.get (i := 5) rfl (by intro h; cases h)) (k H locs ls hP hS hl)
theorem aw_istore_5 (hX : XC X G d own cc nL) {a0 a1 a2 a3 a4 : Value} {x : Int32} {b : Value} {t : List Value} (hc : a4.category = 1) (hn : 5 < nL) (hd : decode cc pc = .ok (.istore 5, 2)) (k : AW X G (pc + 2) (a0 :: a1 :: a2 :: a3 :: a4 :: .int x :: t) (st) S) : AW X G pc (a0 :: a1 :: a2 :: a3 :: a4 :: b :: t) (.int x :: st) S := by
  obtain ⟨p, l, e, R, s, m, args, below, meth, c, cells, slots, Q, A⟩ := X
  exact fun H locs ls hP hS hl => lv_istore hX.1 hX.2.1 hd (hl.lv _) (by rw [hX.2.2.1]; exact hn) rfl (fun ls2 hl2 => k H locs ls2 hP hS (hasL.set hl2 (prevOK (a := a4) (i := 4) rfl hc)))
theorem aw_iinc_5 (hX : XC X G d own cc nL) {a0 a1 a2 a3 a4 : Value} {x : Int32} {n : Int} {t : List Value} (hc : a4.category = 1) (hn : 5 < nL) (hd : decode cc pc = .ok (.iinc 5 n, 3)) (k : AW X G (pc + 3) (a0 :: a1 :: a2 :: a3 :: a4 :: .int (x + Int32.ofInt n) :: t) st S) : AW X G pc (a0 :: a1 :: a2 :: a3 :: a4 :: .int x :: t) st S := by
  obtain ⟨p, l, e, R, s, m, args, below, meth, c, cells, slots, Q, A⟩ := X
  intro H locs ls hP hS hl
  have hm : (5, Value.int x) ∈ toLv (a0 :: a1 :: a2 :: a3 :: a4 :: .int x :: t) (a0 :: a1 :: a2 :: a3 :: a4 :: .int x :: t).length := toLv_mem.mpr ⟨by simp, rfl, by intro h; cases h⟩
  obtain ⟨k0, hk0⟩ := List.getElem?_of_mem hm
  exact lv_iinc hX.1 hX.2.1 hd (hl.lv _) hk0 rfl (by rw [hX.2.2.1]; exact hn) rfl (fun ls2 hl2 => k H locs ls2 hP hS (hasL.set hl2 (prevOK (a := a4) (i := 4) rfl hc)))
theorem aw_iinc_5N (hX : XC X G d own cc nL) {a0 a1 a2 a3 a4 : Value} {x : Nat} {t : List Value} (hc : a4.category = 1) (hn : 5 < nL) (hd : decode cc pc = .ok (.iinc 5 1, 3)) (k : AW X G (pc + 3) (a0 :: a1 :: a2 :: a3 :: a4 :: .int (nI (x + 1)) :: t) st S) : AW X G pc (a0 :: a1 :: a2 :: a3 :: a4 :: .int (nI x) :: t) st S :=
  aw_iinc_5 hX hc hn hd (by rw [show nI x + Int32.ofInt 1 = nI (x + 1) from nI_1 x]; exact k)
theorem aw_iload_6 (hX : XC X G d own cc nL) {a0 a1 a2 a3 a4 a5 : Value} {x : Int32} {t : List Value} (hd : decode cc pc = .ok (.iload 6, 2)) (k : AW X G (pc + 2) (a0 :: a1 :: a2 :: a3 :: a4 :: a5 :: .int x :: t) (.int x :: st) S) : AW X G pc (a0 :: a1 :: a2 :: a3 :: a4 :: a5 :: .int x :: t) (st) S := by
  obtain ⟨p, l, e, R, s, m, args, below, meth, c, cells, slots, Q, A⟩ := X
  exact fun H locs ls hP hS hl => lv_iload hX.1 hX.2.1 hd (hl.get (i := 6) rfl (by intro h; cases h)) (k H locs ls hP hS hl)
theorem aw_istore_6 (hX : XC X G d own cc nL) {a0 a1 a2 a3 a4 a5 : Value} {x : Int32} {b : Value} {t : List Value} (hc : a5.category = 1) (hn : 6 < nL) (hd : decode cc pc = .ok (.istore 6, 2)) (k : AW X G (pc + 2) (a0 :: a1 :: a2 :: a3 :: a4 :: a5 :: .int x :: t) (st) S) : AW X G pc (a0 :: a1 :: a2 :: a3 :: a4 :: a5 :: b :: t) (.int x :: st) S := by
  obtain ⟨p, l, e, R, s, m, args, below, meth, c, cells, slots, Q, A⟩ := X
  exact fun H locs ls hP hS hl => lv_istore hX.1 hX.2.1 hd (hl.lv _) (by rw [hX.2.2.1]; exact hn) rfl (fun ls2 hl2 => k H locs ls2 hP hS (hasL.set hl2 (prevOK (a := a5) (i := 5) rfl hc)))
theorem aw_iinc_6 (hX : XC X G d own cc nL) {a0 a1 a2 a3 a4 a5 : Value} {x : Int32} {n : Int} {t : List Value} (hc : a5.category = 1) (hn : 6 < nL) (hd : decode cc pc = .ok (.iinc 6 n, 3)) (k : AW X G (pc + 3) (a0 :: a1 :: a2 :: a3 :: a4 :: a5 :: .int (x + Int32.ofInt n) :: t) st S) : AW X G pc (a0 :: a1 :: a2 :: a3 :: a4 :: a5 :: .int x :: t) st S := by
  obtain ⟨p, l, e, R, s, m, args, below, meth, c, cells, slots, Q, A⟩ := X
  intro H locs ls hP hS hl
  have hm : (6, Value.int x) ∈ toLv (a0 :: a1 :: a2 :: a3 :: a4 :: a5 :: .int x :: t) (a0 :: a1 :: a2 :: a3 :: a4 :: a5 :: .int x :: t).length := toLv_mem.mpr ⟨by simp, rfl, by intro h; cases h⟩
  obtain ⟨k0, hk0⟩ := List.getElem?_of_mem hm
  exact lv_iinc hX.1 hX.2.1 hd (hl.lv _) hk0 rfl (by rw [hX.2.2.1]; exact hn) rfl (fun ls2 hl2 => k H locs ls2 hP hS (hasL.set hl2 (prevOK (a := a5) (i := 5) rfl hc)))
theorem aw_iinc_6N (hX : XC X G d own cc nL) {a0 a1 a2 a3 a4 a5 : Value} {x : Nat} {t : List Value} (hc : a5.category = 1) (hn : 6 < nL) (hd : decode cc pc = .ok (.iinc 6 1, 3)) (k : AW X G (pc + 3) (a0 :: a1 :: a2 :: a3 :: a4 :: a5 :: .int (nI (x + 1)) :: t) st S) : AW X G pc (a0 :: a1 :: a2 :: a3 :: a4 :: a5 :: .int (nI x) :: t) st S :=
  aw_iinc_6 hX hc hn hd (by rw [show nI x + Int32.ofInt 1 = nI (x + 1) from nI_1 x]; exact k)
theorem aw_iload_7 (hX : XC X G d own cc nL) {a0 a1 a2 a3 a4 a5 a6 : Value} {x : Int32} {t : List Value} (hd : decode cc pc = .ok (.iload 7, 2)) (k : AW X G (pc + 2) (a0 :: a1 :: a2 :: a3 :: a4 :: a5 :: a6 :: .int x :: t) (.int x :: st) S) : AW X G pc (a0 :: a1 :: a2 :: a3 :: a4 :: a5 :: a6 :: .int x :: t) (st) S := by
  obtain ⟨p, l, e, R, s, m, args, below, meth, c, cells, slots, Q, A⟩ := X
  exact fun H locs ls hP hS hl => lv_iload hX.1 hX.2.1 hd (hl.get (i := 7) rfl (by intro h; cases h)) (k H locs ls hP hS hl)
theorem aw_istore_7 (hX : XC X G d own cc nL) {a0 a1 a2 a3 a4 a5 a6 : Value} {x : Int32} {b : Value} {t : List Value} (hc : a6.category = 1) (hn : 7 < nL) (hd : decode cc pc = .ok (.istore 7, 2)) (k : AW X G (pc + 2) (a0 :: a1 :: a2 :: a3 :: a4 :: a5 :: a6 :: .int x :: t) (st) S) : AW X G pc (a0 :: a1 :: a2 :: a3 :: a4 :: a5 :: a6 :: b :: t) (.int x :: st) S := by
  obtain ⟨p, l, e, R, s, m, args, below, meth, c, cells, slots, Q, A⟩ := X
  exact fun H locs ls hP hS hl => lv_istore hX.1 hX.2.1 hd (hl.lv _) (by rw [hX.2.2.1]; exact hn) rfl (fun ls2 hl2 => k H locs ls2 hP hS (hasL.set hl2 (prevOK (a := a6) (i := 6) rfl hc)))
theorem aw_iinc_7 (hX : XC X G d own cc nL) {a0 a1 a2 a3 a4 a5 a6 : Value} {x : Int32} {n : Int} {t : List Value} (hc : a6.category = 1) (hn : 7 < nL) (hd : decode cc pc = .ok (.iinc 7 n, 3)) (k : AW X G (pc + 3) (a0 :: a1 :: a2 :: a3 :: a4 :: a5 :: a6 :: .int (x + Int32.ofInt n) :: t) st S) : AW X G pc (a0 :: a1 :: a2 :: a3 :: a4 :: a5 :: a6 :: .int x :: t) st S := by
  obtain ⟨p, l, e, R, s, m, args, below, meth, c, cells, slots, Q, A⟩ := X
  intro H locs ls hP hS hl
  have hm : (7, Value.int x) ∈ toLv (a0 :: a1 :: a2 :: a3 :: a4 :: a5 :: a6 :: .int x :: t) (a0 :: a1 :: a2 :: a3 :: a4 :: a5 :: a6 :: .int x :: t).length := toLv_mem.mpr ⟨by simp, rfl, by intro h; cases h⟩
  obtain ⟨k0, hk0⟩ := List.getElem?_of_mem hm
  exact lv_iinc hX.1 hX.2.1 hd (hl.lv _) hk0 rfl (by rw [hX.2.2.1]; exact hn) rfl (fun ls2 hl2 => k H locs ls2 hP hS (hasL.set hl2 (prevOK (a := a6) (i := 6) rfl hc)))
theorem aw_iinc_7N (hX : XC X G d own cc nL) {a0 a1 a2 a3 a4 a5 a6 : Value} {x : Nat} {t : List Value} (hc : a6.category = 1) (hn : 7 < nL) (hd : decode cc pc = .ok (.iinc 7 1, 3)) (k : AW X G (pc + 3) (a0 :: a1 :: a2 :: a3 :: a4 :: a5 :: a6 :: .int (nI (x + 1)) :: t) st S) : AW X G pc (a0 :: a1 :: a2 :: a3 :: a4 :: a5 :: a6 :: .int (nI x) :: t) st S :=
  aw_iinc_7 hX hc hn hd (by rw [show nI x + Int32.ofInt 1 = nI (x + 1) from nI_1 x]; exact k)
theorem aw_iload_8 (hX : XC X G d own cc nL) {a0 a1 a2 a3 a4 a5 a6 a7 : Value} {x : Int32} {t : List Value} (hd : decode cc pc = .ok (.iload 8, 2)) (k : AW X G (pc + 2) (a0 :: a1 :: a2 :: a3 :: a4 :: a5 :: a6 :: a7 :: .int x :: t) (.int x :: st) S) : AW X G pc (a0 :: a1 :: a2 :: a3 :: a4 :: a5 :: a6 :: a7 :: .int x :: t) (st) S := by
  obtain ⟨p, l, e, R, s, m, args, below, meth, c, cells, slots, Q, A⟩ := X
  exact fun H locs ls hP hS hl => lv_iload hX.1 hX.2.1 hd (hl.get (i := 8) rfl (by intro h; cases h)) (k H locs ls hP hS hl)
theorem aw_istore_8 (hX : XC X G d own cc nL) {a0 a1 a2 a3 a4 a5 a6 a7 : Value} {x : Int32} {b : Value} {t : List Value} (hc : a7.category = 1) (hn : 8 < nL) (hd : decode cc pc = .ok (.istore 8, 2)) (k : AW X G (pc + 2) (a0 :: a1 :: a2 :: a3 :: a4 :: a5 :: a6 :: a7 :: .int x :: t) (st) S) : AW X G pc (a0 :: a1 :: a2 :: a3 :: a4 :: a5 :: a6 :: a7 :: b :: t) (.int x :: st) S := by
  obtain ⟨p, l, e, R, s, m, args, below, meth, c, cells, slots, Q, A⟩ := X
  exact fun H locs ls hP hS hl => lv_istore hX.1 hX.2.1 hd (hl.lv _) (by rw [hX.2.2.1]; exact hn) rfl (fun ls2 hl2 => k H locs ls2 hP hS (hasL.set hl2 (prevOK (a := a7) (i := 7) rfl hc)))
theorem aw_iinc_8 (hX : XC X G d own cc nL) {a0 a1 a2 a3 a4 a5 a6 a7 : Value} {x : Int32} {n : Int} {t : List Value} (hc : a7.category = 1) (hn : 8 < nL) (hd : decode cc pc = .ok (.iinc 8 n, 3)) (k : AW X G (pc + 3) (a0 :: a1 :: a2 :: a3 :: a4 :: a5 :: a6 :: a7 :: .int (x + Int32.ofInt n) :: t) st S) : AW X G pc (a0 :: a1 :: a2 :: a3 :: a4 :: a5 :: a6 :: a7 :: .int x :: t) st S := by
  obtain ⟨p, l, e, R, s, m, args, below, meth, c, cells, slots, Q, A⟩ := X
  intro H locs ls hP hS hl
  have hm : (8, Value.int x) ∈ toLv (a0 :: a1 :: a2 :: a3 :: a4 :: a5 :: a6 :: a7 :: .int x :: t) (a0 :: a1 :: a2 :: a3 :: a4 :: a5 :: a6 :: a7 :: .int x :: t).length := toLv_mem.mpr ⟨by simp, rfl, by intro h; cases h⟩
  obtain ⟨k0, hk0⟩ := List.getElem?_of_mem hm
  exact lv_iinc hX.1 hX.2.1 hd (hl.lv _) hk0 rfl (by rw [hX.2.2.1]; exact hn) rfl (fun ls2 hl2 => k H locs ls2 hP hS (hasL.set hl2 (prevOK (a := a7) (i := 7) rfl hc)))
theorem aw_iinc_8N (hX : XC X G d own cc nL) {a0 a1 a2 a3 a4 a5 a6 a7 : Value} {x : Nat} {t : List Value} (hc : a7.category = 1) (hn : 8 < nL) (hd : decode cc pc = .ok (.iinc 8 1, 3)) (k : AW X G (pc + 3) (a0 :: a1 :: a2 :: a3 :: a4 :: a5 :: a6 :: a7 :: .int (nI (x + 1)) :: t) st S) : AW X G pc (a0 :: a1 :: a2 :: a3 :: a4 :: a5 :: a6 :: a7 :: .int (nI x) :: t) st S :=
  aw_iinc_8 hX hc hn hd (by rw [show nI x + Int32.ofInt 1 = nI (x + 1) from nI_1 x]; exact k)
theorem aw_iload_9 (hX : XC X G d own cc nL) {a0 a1 a2 a3 a4 a5 a6 a7 a8 : Value} {x : Int32} {t : List Value} (hd : decode cc pc = .ok (.iload 9, 2)) (k : AW X G (pc + 2) (a0 :: a1 :: a2 :: a3 :: a4 :: a5 :: a6 :: a7 :: a8 :: .int x :: t) (.int x :: st) S) : AW X G pc (a0 :: a1 :: a2 :: a3 :: a4 :: a5 :: a6 :: a7 :: a8 :: .int x :: t) (st) S := by
  obtain ⟨p, l, e, R, s, m, args, below, meth, c, cells, slots, Q, A⟩ := X
  exact fun H locs ls hP hS hl => lv_iload hX.1 hX.2.1 hd (hl.get (i := 9) rfl (by intro h; cases h)) (k H locs ls hP hS hl)
theorem aw_istore_9 (hX : XC X G d own cc nL) {a0 a1 a2 a3 a4 a5 a6 a7 a8 : Value} {x : Int32} {b : Value} {t : List Value} (hc : a8.category = 1) (hn : 9 < nL) (hd : decode cc pc = .ok (.istore 9, 2)) (k : AW X G (pc + 2) (a0 :: a1 :: a2 :: a3 :: a4 :: a5 :: a6 :: a7 :: a8 :: .int x :: t) (st) S) : AW X G pc (a0 :: a1 :: a2 :: a3 :: a4 :: a5 :: a6 :: a7 :: a8 :: b :: t) (.int x :: st) S := by
  obtain ⟨p, l, e, R, s, m, args, below, meth, c, cells, slots, Q, A⟩ := X
  exact fun H locs ls hP hS hl => lv_istore hX.1 hX.2.1 hd (hl.lv _) (by rw [hX.2.2.1]; exact hn) rfl (fun ls2 hl2 => k H locs ls2 hP hS (hasL.set hl2 (prevOK (a := a8) (i := 8) rfl hc)))
theorem aw_iinc_9 (hX : XC X G d own cc nL) {a0 a1 a2 a3 a4 a5 a6 a7 a8 : Value} {x : Int32} {n : Int} {t : List Value} (hc : a8.category = 1) (hn : 9 < nL) (hd : decode cc pc = .ok (.iinc 9 n, 3)) (k : AW X G (pc + 3) (a0 :: a1 :: a2 :: a3 :: a4 :: a5 :: a6 :: a7 :: a8 :: .int (x + Int32.ofInt n) :: t) st S) : AW X G pc (a0 :: a1 :: a2 :: a3 :: a4 :: a5 :: a6 :: a7 :: a8 :: .int x :: t) st S := by
  obtain ⟨p, l, e, R, s, m, args, below, meth, c, cells, slots, Q, A⟩ := X
  intro H locs ls hP hS hl
  have hm : (9, Value.int x) ∈ toLv (a0 :: a1 :: a2 :: a3 :: a4 :: a5 :: a6 :: a7 :: a8 :: .int x :: t) (a0 :: a1 :: a2 :: a3 :: a4 :: a5 :: a6 :: a7 :: a8 :: .int x :: t).length := toLv_mem.mpr ⟨by simp, rfl, by intro h; cases h⟩
  obtain ⟨k0, hk0⟩ := List.getElem?_of_mem hm
  exact lv_iinc hX.1 hX.2.1 hd (hl.lv _) hk0 rfl (by rw [hX.2.2.1]; exact hn) rfl (fun ls2 hl2 => k H locs ls2 hP hS (hasL.set hl2 (prevOK (a := a8) (i := 8) rfl hc)))
theorem aw_iinc_9N (hX : XC X G d own cc nL) {a0 a1 a2 a3 a4 a5 a6 a7 a8 : Value} {x : Nat} {t : List Value} (hc : a8.category = 1) (hn : 9 < nL) (hd : decode cc pc = .ok (.iinc 9 1, 3)) (k : AW X G (pc + 3) (a0 :: a1 :: a2 :: a3 :: a4 :: a5 :: a6 :: a7 :: a8 :: .int (nI (x + 1)) :: t) st S) : AW X G pc (a0 :: a1 :: a2 :: a3 :: a4 :: a5 :: a6 :: a7 :: a8 :: .int (nI x) :: t) st S :=
  aw_iinc_9 hX hc hn hd (by rw [show nI x + Int32.ofInt 1 = nI (x + 1) from nI_1 x]; exact k)
theorem aw_iload_10 (hX : XC X G d own cc nL) {a0 a1 a2 a3 a4 a5 a6 a7 a8 a9 : Value} {x : Int32} {t : List Value} (hd : decode cc pc = .ok (.iload 10, 2)) (k : AW X G (pc + 2) (a0 :: a1 :: a2 :: a3 :: a4 :: a5 :: a6 :: a7 :: a8 :: a9 :: .int x :: t) (.int x :: st) S) : AW X G pc (a0 :: a1 :: a2 :: a3 :: a4 :: a5 :: a6 :: a7 :: a8 :: a9 :: .int x :: t) (st) S := by
  obtain ⟨p, l, e, R, s, m, args, below, meth, c, cells, slots, Q, A⟩ := X
  exact fun H locs ls hP hS hl => lv_iload hX.1 hX.2.1 hd (hl.get (i := 10) rfl (by intro h; cases h)) (k H locs ls hP hS hl)
theorem aw_istore_10 (hX : XC X G d own cc nL) {a0 a1 a2 a3 a4 a5 a6 a7 a8 a9 : Value} {x : Int32} {b : Value} {t : List Value} (hc : a9.category = 1) (hn : 10 < nL) (hd : decode cc pc = .ok (.istore 10, 2)) (k : AW X G (pc + 2) (a0 :: a1 :: a2 :: a3 :: a4 :: a5 :: a6 :: a7 :: a8 :: a9 :: .int x :: t) (st) S) : AW X G pc (a0 :: a1 :: a2 :: a3 :: a4 :: a5 :: a6 :: a7 :: a8 :: a9 :: b :: t) (.int x :: st) S := by
  obtain ⟨p, l, e, R, s, m, args, below, meth, c, cells, slots, Q, A⟩ := X
  exact fun H locs ls hP hS hl => lv_istore hX.1 hX.2.1 hd (hl.lv _) (by rw [hX.2.2.1]; exact hn) rfl (fun ls2 hl2 => k H locs ls2 hP hS (hasL.set hl2 (prevOK (a := a9) (i := 9) rfl hc)))
theorem aw_iinc_10 (hX : XC X G d own cc nL) {a0 a1 a2 a3 a4 a5 a6 a7 a8 a9 : Value} {x : Int32} {n : Int} {t : List Value} (hc : a9.category = 1) (hn : 10 < nL) (hd : decode cc pc = .ok (.iinc 10 n, 3)) (k : AW X G (pc + 3) (a0 :: a1 :: a2 :: a3 :: a4 :: a5 :: a6 :: a7 :: a8 :: a9 :: .int (x + Int32.ofInt n) :: t) st S) : AW X G pc (a0 :: a1 :: a2 :: a3 :: a4 :: a5 :: a6 :: a7 :: a8 :: a9 :: .int x :: t) st S := by
  obtain ⟨p, l, e, R, s, m, args, below, meth, c, cells, slots, Q, A⟩ := X
  intro H locs ls hP hS hl
  have hm : (10, Value.int x) ∈ toLv (a0 :: a1 :: a2 :: a3 :: a4 :: a5 :: a6 :: a7 :: a8 :: a9 :: .int x :: t) (a0 :: a1 :: a2 :: a3 :: a4 :: a5 :: a6 :: a7 :: a8 :: a9 :: .int x :: t).length := toLv_mem.mpr ⟨by simp, rfl, by intro h; cases h⟩
  obtain ⟨k0, hk0⟩ := List.getElem?_of_mem hm
  exact lv_iinc hX.1 hX.2.1 hd (hl.lv _) hk0 rfl (by rw [hX.2.2.1]; exact hn) rfl (fun ls2 hl2 => k H locs ls2 hP hS (hasL.set hl2 (prevOK (a := a9) (i := 9) rfl hc)))
theorem aw_iinc_10N (hX : XC X G d own cc nL) {a0 a1 a2 a3 a4 a5 a6 a7 a8 a9 : Value} {x : Nat} {t : List Value} (hc : a9.category = 1) (hn : 10 < nL) (hd : decode cc pc = .ok (.iinc 10 1, 3)) (k : AW X G (pc + 3) (a0 :: a1 :: a2 :: a3 :: a4 :: a5 :: a6 :: a7 :: a8 :: a9 :: .int (nI (x + 1)) :: t) st S) : AW X G pc (a0 :: a1 :: a2 :: a3 :: a4 :: a5 :: a6 :: a7 :: a8 :: a9 :: .int (nI x) :: t) st S :=
  aw_iinc_10 hX hc hn hd (by rw [show nI x + Int32.ofInt 1 = nI (x + 1) from nI_1 x]; exact k)
theorem aw_iald (hX : XC X G d own cc nL) {q n j : Nat} (hd : decode cc pc = .ok (.iaload, 1)) (hq : (gws G S)[q]? = some (gad G q, .inl (gci G, n, .inl (S.2.1 q)))) (hn : n < 2 ^ 31) (hj : j < n) (k : AW X G (pc + 1) L (.int (S.2.1 q j) :: st) S) : AW X G pc L (.int (nI j) :: .ref (gad G q) :: st) S := by
  obtain ⟨p, l, e, R, s, m, args, below, meth, c, cells, slots, Q, A⟩ := X
  refine fun H locs ls hP hS hl => va_iald hX.1 hX.2.1 hX.2.2.2.2.2.1 hP q 0 hq rfl (vp_in_nI hj hn) hd ?_
  rw [nI_clamp (by omega)]
  exact k H locs ls hP hS hl
theorem aw_zald (hX : XC X G d own cc nL) {q n j : Nat} (hd : decode cc pc = .ok (.baload, 1)) (hq : (gws G S)[q]? = some (gad G q, .inl (gcz G, n, .inl (S.2.1 q)))) (hn : n < 2 ^ 31) (hj : j < n) (k : AW X G (pc + 1) L (.int (S.2.1 q j) :: st) S) : AW X G pc L (.int (nI j) :: .ref (gad G q) :: st) S := by
  obtain ⟨p, l, e, R, s, m, args, below, meth, c, cells, slots, Q, A⟩ := X
  refine fun H locs ls hP hS hl => va_zald hX.1 hX.2.1 hX.2.2.2.2.2.1 hP q 1 hq rfl (vp_in_nI hj hn) hd ?_
  rw [nI_clamp (by omega)]
  exact k H locs ls hP hS hl
theorem aw_iast (hX : XC X G d own cc nL) {q n j : Nat} {x : Int32} (hd : decode cc pc = .ok (.iastore, 1)) (hq : (gws G S)[q]? = some (gad G q, .inl (gci G, n, .inl (S.2.1 q)))) (hs : ∀ f, (gws G S).set q (gad G q, .inl (gci G, n, .inl (upd (S.2.1 q) j f))) = gws G (sA S q j f)) (hn : n < 2 ^ 31) (hj : j < n) (k : AW X G (pc + 1) L st (sA S q j x)) : AW X G pc L (.int x :: .int (nI j) :: .ref (gad G q) :: st) S := by
  obtain ⟨p, l, e, R, s, m, args, below, meth, c, cells, slots, Q, A⟩ := X
  refine fun H locs ls hP hS hl => va_iast hX.1 hX.2.1 hX.2.2.2.2.2.1 hP (gws_D hX.2.2.2.2.2.2.1 hX.2.2.2.2.2.2.2.1) hS q 0 hq rfl (vp_in_nI hj hn) hd (fun H1 locs1 hP1 _ hS1 => ?_)
  rw [nI_clamp (by omega), hs] at hP1
  exact k H1 locs1 ls hP1 hS1 hl
theorem aw_zast (hX : XC X G d own cc nL) {q n j : Nat} {b : Bool} (hd : decode cc pc = .ok (.bastore, 1)) (hq : (gws G S)[q]? = some (gad G q, .inl (gcz G, n, .inl (S.2.1 q)))) (hs : ∀ f, (gws G S).set q (gad G q, .inl (gcz G, n, .inl (upd (S.2.1 q) j f))) = gws G (sA S q j f)) (hn : n < 2 ^ 31) (hj : j < n) (k : AW X G (pc + 1) L st (sA S q j (bI b))) : AW X G pc L (.int (bI b) :: .int (nI j) :: .ref (gad G q) :: st) S := by
  obtain ⟨p, l, e, R, s, m, args, below, meth, c, cells, slots, Q, A⟩ := X
  refine fun H locs ls hP hS hl => va_zast hX.1 hX.2.1 hX.2.2.2.2.2.1 hP (gws_D hX.2.2.2.2.2.2.1 hX.2.2.2.2.2.2.2.1) hS q 1 hq rfl (vp_in_nI hj hn) hd (fun H1 locs1 hP1 _ hS1 => ?_)
  rw [nI_clamp (by omega), hs, show vp_nar .boolean (bI b) = bI b by cases b <;> rfl] at hP1
  exact k H1 locs1 ls hP1 hS1 hl
theorem aw_alen (hX : XC X G d own cc nL) {q n : Nat} (hd : decode cc pc = .ok (.arraylength, 1)) (hq : (gws G S)[q]? = some (gad G q, .inl (gci G, n, .inl (S.2.1 q)))) (k : AW X G (pc + 1) L (.int (nI n) :: st) S) : AW X G pc L (.ref (gad G q) :: st) S := by
  obtain ⟨p, l, e, R, s, m, args, below, meth, c, cells, slots, Q, A⟩ := X
  exact fun H locs ls hP hS hl => va_alen hX.1 hX.2.1 hX.2.2.2.2.2.1 hP q 0 hq (ty := .int) rfl rfl hd (k H locs ls hP hS hl)
theorem aw_tald (hX : XC X G d own cc nL) {j : Nat} (hd : decode cc pc = .ok (.iaload, 1)) (hj : j < 3) (k : AW X G (pc + 1) L (.int (gpull j) :: st) S) : AW X G pc L (.int (nI j) :: .ref (gtq G) :: st) S := by
  obtain ⟨p, l, e, R, s, m, args, below, meth, c, cells, slots, Q, A⟩ := X
  refine fun H locs ls hP hS hl => va_ti hX.1 hX.2.1 hX.2.2.2.2.2.2.2.2.2.1.2 hS (vp_in_nI hj (by decide)) (v := .int (gpull j)) (by rw [nI_clamp (by omega)]) hd (k H locs ls hP hS hl)
end AWR
