/-! the start -/
def S0 : St := (fun k => if k = 1 then 1 else if k = 22 then 1 else 0, fun _ _ => 0, fun _ => 0, fun _ => 0)
def adl (q7 q8 : Nat) (qs : Nat → Nat → Nat) (qm : Nat → Nat) : List Nat := [q7, qs 0 0, qs 0 1, qs 0 2, qs 0 3, qs 0 4, qs 0 5, qs 0 6, q8, qs 0 7, qs 1 0, qs 1 1, qs 1 2, qs 1 3, qs 4 0, qs 4 1, qs 4 2, qs 4 3, qs 4 4, qs 3 0, qs 3 1, qs 3 2, qs 3 3, qs 3 4, qs 3 5, qs 3 6, qs 3 7, qs 3 8, qs 3 9, qs 3 10, qs 5 0, qs 5 1, qs 5 2, qs 5 3, qs 2 0, qs 2 1, qs 6 0, qs 6 1, qs 6 2, qs 6 3, qs 7 0, qs 7 1, qs 7 2, qs 7 3, qs 7 4, qs 7 5, qm 0, qm 1, qm 2, qm 3, qm 4, qm 5, qm 6, qm 7, qm 8, qm 9, qm 10, qm 11, qm 12, qm 13]
def G0 (D : va_G) (cI cZ : ClassId) (q7 q8 : Nat) (qs : Nat → Nat → Nat) (qm : Nat → Nat) (tq : Nat) : GT := (D, cI, cZ, fun k => (adl q7 q8 qs qm).getD k 0, tq)
def is0 : List Nat := [0, 1, 6, 12, 24, 29, 32, 37, 45, 44, 2, 3, 4, 5, 7, 8, 9, 10, 11, 13, 14, 15, 16, 17, 18, 19, 20, 21, 22, 23, 25, 26, 27, 28, 30, 31, 33, 34, 35, 36, 38, 39, 40, 41, 42, 43, 46, 47, 48, 49, 50, 51, 52, 53, 54, 55, 56, 57, 58, 59]
set_option maxRecDepth 100000 in
theorem w0_eq (D : va_G) (cI cZ : ClassId) (q7 q8 : Nat) (qs : Nat → Nat → Nat) (qm : Nat → Nat) (tq : Nat) : is0.map (fun i => (([] ++ fin7 cI cZ q7 qs) ++ fin8 cI cZ q8 qm)[i]?) = (gws (G0 D cI cZ q7 q8 qs qm tq) S0).map some := rfl
theorem fm_of {α β : Type} {f : α → Option β} : ∀ {l : List α} {l' : List β}, l.map f = l'.map some → l.filterMap f = l'
  | [], [], _ => rfl
  | [], b :: l', h => by cases h
  | a :: l, [], h => by cases h
  | a :: l, b :: l', h => by
    rw [List.map_cons, List.map_cons, List.cons.injEq] at h
    rw [List.filterMap_cons_some h.1, fm_of h.2]
theorem gws_sm (G : GT) (S : St) {i : Nat} (hi : i < 60) : ∃ q, (gws G S)[i]? = some q ∧ q.1 = gad G i := by
  have h1 : ((gws G S).map (fun x => x.1))[i]? = some (gad G i) := by
    rw [show (gws G S).map (fun x => x.1) = (List.range 60).map (gad G) from rfl, List.getElem?_map, List.getElem?_range hi]; rfl
  rw [List.getElem?_map] at h1
  cases hq : (gws G S)[i]? with
  | none => rw [hq] at h1; cases h1
  | some q =>
    rw [hq] at h1
    exact ⟨q, rfl, Option.some.inj h1⟩
theorem gInj_of {G : GT} {S : St} {A : Nat → Prop} (h : va_D A (gws G S)) : gInj G ∧ ∀ k : Nat, k < 60 → A (gad G k) := by
  refine ⟨fun i j hi hj e => ?_, fun k hk => ?_⟩
  · obtain ⟨p, p1, p2⟩ := gws_sm G S hi
    obtain ⟨q, q1, q2⟩ := gws_sm G S hj
    exact h.1 i j p q p1 q1 (by rw [p2, q2]; exact e)
  · obtain ⟨p, p1, p2⟩ := gws_sm G S hk
    rw [← p2]; exact h.2 k p p1
theorem rel_0 : Rel S0 := by
  refine ⟨⟨rfl, rfl, Nat.zero_le _, rfl, rfl, Nat.zero_le _, rfl, Nat.zero_le _, rfl, Nat.zero_le _, rfl, Nat.zero_le _, rfl, Nat.zero_le _, rfl, Nat.zero_le _, rfl, Nat.zero_le _, rfl⟩, rfl, ⟨rfl, fun i => ⟨by show (0 : Int32) = nI (tn (0 : Int32)); decide, by show tn (0 : Int32) < 256; decide⟩⟩, ⟨rfl, fun h => Or.inr rfl⟩, ⟨rfl, rfl, ?_, fun i hi => ?_⟩, fun j => ⟨rfl, rfl, rfl, rfl, rfl, rfl, rfl, rfl, rfl, rfl⟩, fun j hj => absurd hj (Nat.not_lt_zero _), fun j hj => absurd hj (Nat.not_lt_zero _), ⟨fun k => ⟨rfl, rfl, rfl, rfl⟩, fun k hk => absurd hk (Nat.not_lt_zero _), fun k hk => absurd hk (Nat.not_lt_zero _)⟩, fun k => ⟨rfl, rfl, rfl, rfl⟩, ⟨fun k => ⟨rfl, rfl⟩, fun k hk => absurd hk (Nat.not_lt_zero _)⟩, ⟨fun i hi => absurd hi (Nat.not_lt_zero _), fun i => rfl⟩⟩
  · exact ⟨fun k hk => ⟨by show (0 : Int32) = nI (tn (0 : Int32)); decide, by show tn (0 : Int32) ≤ 30 * k; rw [show tn (0 : Int32) = 0 by decide]; exact Nat.zero_le _⟩, fun k hk => absurd hk (Nat.not_lt_zero _)⟩
  · exact absurd hi (by show ¬ i < tn (0 : Int32); rw [show tn (0 : Int32) = 0 by decide]; exact Nat.not_lt_zero _)
theorem k_of {s : State} {args : Array Value} (hts : ∀ w ∈ gtbl, w.before args s = true) : ∃ (D : va_G) (cI cZ : ClassId), va_K D vwCl (cty cI cZ) s := by
  obtain ⟨c0, i0, k0⟩ := u_known (C := RX0) (T := TX0) (N := 9) hts inX0 (hts _ ia_X0)
  obtain ⟨c1, i1, k1⟩ := u_known (C := RX1) (T := TX1) (N := 3) hts inX1 (hts _ ia_X1)
  obtain ⟨c2, i2, k2⟩ := u_known (C := RX2) (T := TX2) (N := 12) hts inX2 (hts _ ia_X2)
  obtain ⟨c3, i3, k3⟩ := u_known (C := RX3) (T := TX3) (N := 6) hts inX3 (hts _ ia_X3)
  obtain ⟨c4, i4, k4⟩ := u_known (C := RX4) (T := TX4) (N := 5) hts inX4 (hts _ ia_X4)
  obtain ⟨c5, i5, k5⟩ := u_known (C := RX5) (T := TX5) (N := 5) hts inX5 (hts _ ia_X5)
  obtain ⟨c6, i6, k6⟩ := u_known (C := RX6) (T := TX6) (N := 8) hts inX6 (hts _ ia_X6)
  obtain ⟨c7, i7, k7⟩ := u_known (C := RX7) (T := TX7) (N := 11) hts inX7 (hts _ ia_X7)
  obtain ⟨c8, i8, k8⟩ := u_known (C := RX8) (T := TX8) (N := 27) hts inX8 (hts _ ia_X8)
  obtain ⟨cI, kI, mI, a1, a2, a3⟩ := Cond.arrayClass_spec (hts _ ac_int)
  obtain ⟨cZ, kZ, mZ, b1, b2, b3⟩ := Cond.arrayClass_spec (hts _ ac_boolean)
  refine ⟨(fun c => match c with | 0 => c0 | 1 => c1 | 2 => c2 | 3 => c3 | 4 => c4 | 5 => c5 | 6 => c6 | 7 => c7 | _ => c8, fun c => match c with | 0 => i0 | 1 => i1 | 2 => i2 | 3 => i3 | 4 => i4 | 5 => i5 | 6 => i6 | 7 => i7 | _ => i8), cI, cZ, fun c q hq => ?_, fun k q hq => ?_⟩
  · have hc : c < 9 := (List.getElem?_eq_some_iff.mp hq).1
    rcases (show c = 0 ∨ c = 1 ∨ c = 2 ∨ c = 3 ∨ c = 4 ∨ c = 5 ∨ c = 6 ∨ c = 7 ∨ c = 8 by omega) with rfl | rfl | rfl | rfl | rfl | rfl | rfl | rfl | rfl <;> cases hq
    · exact k0
    · exact k1
    · exact k2
    · exact k3
    · exact k4
    · exact k5
    · exact k6
    · exact k7
    · exact k8
  · have hc : k < 2 := (List.getElem?_eq_some_iff.mp hq).1
    rcases (show k = 0 ∨ k = 1 by omega) with rfl | rfl <;> cases hq
    · exact ⟨fun n z => ⟨fun k h => (by cases h), kI, a2, mI, a3⟩, a1⟩
    · exact ⟨fun n z => ⟨fun k h => (by cases h), kZ, b2, mZ, b3⟩, b1⟩
theorem st_of {s : State} {args : Array Value} {A : Nat → Prop} (hts : ∀ w ∈ lw_tbl, w.before args s = true) (hg : (Jvm.Cond.and given_1 narrow_1).before args s = true) (hA : ∀ a : Nat, a < s.heap.size → ¬ A a) : ∃ t : Nat, va_Z "FlueRounds$Flues" "PULL_OF_FUEL" "[I" (.ref t) A s s.heap ∧ va_T .int t 3 (fun j => .int (gpull j)) A s s.heap := by
  have hs := flat_of_before _ hg
  have hgt : ∀ w ∈ gtbl, w.before args s = true := fun w hw => hts w (List.mem_filter.mp hw).1
  obtain ⟨t, t1, t2⟩ := va_Tof (tm := .static "FlueRounds$Flues" "PULL_OF_FUEL" "[I") (ty := .int) (N := 3) (f := fun j => .int (gpull j)) (A := A) (by decide) (hs (.arrayOf (.static "FlueRounds$Flues" "PULL_OF_FUEL" "[I") .int) (by decide +kernel)) (va_eqt (hs (.eq (.length (.static "FlueRounds$Flues" "PULL_OF_FUEL" "[I")) (.int 3)) (by decide +kernel))) (fun j hj => by
    rcases (show j = 0 ∨ j = 1 ∨ j = 2 by omega) with rfl | rfl | rfl
    · exact va_eqt (hs (.eq (.elem (.static "FlueRounds$Flues" "PULL_OF_FUEL" "[I") (.int 0)) (.int 10)) (by decide +kernel))
    · exact va_eqt (hs (.eq (.elem (.static "FlueRounds$Flues" "PULL_OF_FUEL" "[I") (.int 1)) (.int 30)) (by decide +kernel))
    · exact va_eqt (hs (.eq (.elem (.static "FlueRounds$Flues" "PULL_OF_FUEL" "[I") (.int 2)) (.int 40)) (by decide +kernel))) hA
  exact ⟨t, va_Zof (hts _ ls_pull) (hgt _ in_X2) t1 hA, t2⟩
/-! THE CLAIM OUT OF ONE WALK OF THE LAW'S BODY. Your part is whole_start (and what it stands on); all else here is the same for every law, but numbers. -/
def R_law : String := "FlueRoundsLaw"
def lw_P (b : Addr) (xs : List Int32) (args : Array Value) (s : State) : Prop := args = #[.ref b] ∧ s.IntsAt b xs ∧ xs.length ≤ 4608 ∧ (Jvm.Cond.and given_1 narrow_1).before args s = true
def lw_Q (_ : Array Value) (s : State) (o : Outcome) (t : State) : Prop := o = .returned (some (.int 1)) ∧ Framed s o t [] 600000 7302250
def lw_Z (below : List Frame) (a : Array Value) (s : State) : State → Prop := fun t => ∃ o, t.status = .running ∧ Ended t below o ∧ lw_Q a s o t
/-- the law's own end, with 1 on the stack, nothing written that was there before, its room as the claim has it -/
theorem lw_ret {p : Program} {l : Launch} {e : Env} {s : State} {m : MethodId} {below : List Frame} {meth : Method} {c : Code} {b : Nat} (hx : p.tables.exec = Jvm.exec) (hb : c.code = code) (hr : meth.sig.returnType = ret) (hlocks : meth.locks = false) {pc : Nat} {H : Heap} {ls : Array Slot} (hdg : decode code pc = .ok (.ireturn, 1)) : W p l e room_1 s m #[Value.ref b] below meth c H [] 600000 7302250 (lw_Z below #[Value.ref b] s) (F0 m pc ls [.int 1]) := by
  intro T hT X
  obtain ⟨fs, hret, hrun, hended, hW, hframe⟩ := X.leave (v := some (.int 1)) (hlocks := hlocks) (fun h => by rw [hr] at h; cases h)
  have hmeth' : T.vm.method? m = some meth := X.method'
  refine ⟨T.setFrames fs, ?_, .returned (some (.int 1)), hrun, hended, rfl, ⟨_, rfl⟩, hW, hframe⟩
  jvm_step X.here [X.here.top, hx, hb, hdg, hmeth', hr, ret, narrow_b1]
  (try refine ⟨rfl, ?_⟩); (try refine ⟨rfl, ?_⟩)
  first | (intro acts; rw [hret _ acts rfl rfl rfl]) | rw [hret _ _ rfl rfl rfl]
  exact Steps.refl _
/-- what holds at the law's entry: the machine, the code, the tables' words (any of lw_tbl by 'hts w (by decide +kernel)'), the script of L ints xs at the cell b, what the Statement gives of the start (any of its parts by flat_of_before) -/
def lw_At (p : Program) (s : State) (m : MethodId) (meth : Method) (c : Code) (b L : Nat) (xs : Nat → Int32) : Prop :=
  p.tables.exec = Jvm.exec ∧ c.code = code ∧ meth.sig.returnType = ret ∧ c.maxLocals = 4 ∧ s.vm.findClass R_law = some m.cls ∧ (∀ w ∈ lw_tbl, w.before #[Value.ref b] s = true) ∧ va_X b L xs s s.heap ∧ b < s.heap.size ∧ meth.locks = false ∧ (Jvm.Cond.and given_1 narrow_1).before #[Value.ref b] s = true
set_option maxHeartbeats 4000000 in
theorem whole_start {p : Program} {e : Env} {s : State} {m : MethodId} {below : List Frame} {meth : Method} {c : Code} (l : Launch) {b L : Nat} {xs : Nat → Int32} (hL : L ≤ 4608) (C0 : lw_At p s m meth c b L xs) : W p l e room_1 s m #[Value.ref b] below meth c s.heap [] 0 0 (lw_Z below #[Value.ref b] s) (entryFrame m ([Value.ref b] : List Value).toArray 4) := by
  obtain ⟨hx, hb, hr, hml, hown, hts, hXs, hbl, hlocks, hgv⟩ := C0
  have hgt : ∀ w ∈ gtbl, w.before #[Value.ref b] s = true := fun w hw => hts w (List.mem_filter.mp hw).1
  obtain ⟨D, cI, cZ, hK⟩ := k_of hgt
  obtain ⟨tq, hZ, hT⟩ := st_of (A := fun q => s.heap.size ≤ q) hts hgv (fun a h z => absurd z (Nat.not_le.mpr h))
  have hX : CX (p, l, e, room_1, s, m, #[Value.ref b], below, meth, c, 60, 2988, lw_Z below #[Value.ref b] s, fun q => s.heap.size ≤ q) D cI cZ 10 60 2988 RL cL_law 4 false := ⟨hx, hb, hml, hown, hgt, hK, fun q h => h, by decide, by decide, by decide, by decide, fun h => by cases h⟩
  have key : CW (p, l, e, room_1, s, m, #[Value.ref b], below, meth, c, 60, 2988, lw_Z below #[Value.ref b] s, fun q => s.heap.size ≤ q) D 0 [.ref b, .null, .null, .null] [] [] 0 0 := by
    refine cw_new hX (C := RX7) (T := TX7) (N := 11) (ci := 7) (fs := [.null, .null, .null, .null, .null, .null, .null, .null, .int 0, .int 0, .long 0]) inX7 tyX7 tyX7_ok kl_L_7 ia_X7 in_X7 rfl df_X7 dL_law_0 (by decide) (by decide) (fun q7 => ?_)
    refine cw_dup hX rfl dL_law_3 ?_
    refine cw_initL hX (m_X7_init 8 D cI cZ) kc_X7_init (fun u U h z => ⟨va_Nw.same rfl h z.1, va_Nw.same rfl h z.2.1, va_Nw.same rfl h z.2.2.1, va_Nw.same rfl h z.2.2.2.1, va_Nw.same rfl h z.2.2.2.2.1, va_Nw.same rfl h z.2.2.2.2.2.1, va_Nw.same rfl h z.2.2.2.2.2.2⟩) (fun U hW => ⟨va_Nw.warmM hW (va_Nw.of rfl (hts _ mn_X7_9)), va_Nw.warmM hW (va_Nw.of rfl (hts _ mn_X7_18)), va_Nw.warmM hW (va_Nw.of rfl (hts _ mn_X7_25)), va_Nw.warmM hW (va_Nw.of rfl (hts _ mn_X7_32)), va_Nw.warmM hW (va_Nw.of rfl (hts _ mn_X7_39)), va_Nw.warmM hW (va_Nw.of rfl (hts _ mn_X7_46)), va_Nw.warmM hW (va_Nw.of rfl (hts _ mn_X7_53))⟩) ml_L_9 dL_law_4 (Nat.le_of_ble_eq_true rfl) (by decide) (by decide) (fun qs => ?_)
    refine cw_astore_1 hX rfl (by decide) dL_law_7 ?_
    refine cw_new hX (C := RX8) (T := TX8) (N := 27) (ci := 8) (fs := [.int 0, .int 0, .null, .int 0, .int 0, .null, .null, .null, .null, .null, .int 0, .int 0, .null, .int 0, .null, .int 0, .null, .int 0, .null, .int 0, .null, .int 0, .null, .null, .null, .int 0, .long 0]) inX8 tyX8 tyX8_ok kl_L_10 ia_X8 in_X8 rfl df_X8 dL_law_8 (by decide) (by decide) (fun q8 => ?_)
    refine cw_dup hX rfl dL_law_11 ?_
    refine cw_initL hX (m_X8_init 9 D cI cZ) kc_X8_init (fun _ _ _ _ => trivial) (fun _ _ => trivial) ml_L_12 dL_law_12 (Nat.le_of_ble_eq_true rfl) (by decide) (by decide) (fun qm => ?_)
    refine cw_astore_2 hX rfl (by decide) dL_law_15 ?_
    intro H locs ls hP hD hS hl
    have hP2 : va_P D vwCl (gws (G0 D cI cZ q7 q8 qs qm tq) S0) H := hP.sub is0 (fm_of (w0_eq D cI cZ q7 q8 qs qm tq))
    have hD2 : va_D (fun q => s.heap.size ≤ q) (gws (G0 D cI cZ q7 q8 qs qm tq) S0) := hD.sub is0 (by decide) (w0_eq D cI cZ q7 q8 qs qm tq)
    obtain ⟨g1, g2⟩ := gInj_of hD2
    have hX2 : XC (p, l, e, room_1, s, m, #[Value.ref b], below, meth, c, 60, 2988, lw_Z below #[Value.ref b] s, fun q => s.heap.size ≤ q) (G0 D cI cZ q7 q8 qs qm tq) 10 RL cL_law 4 := ⟨hx, hb, hml, hown, hgt, hK, g1, g2, fun q h => h, ⟨hZ, hT⟩, by decide, by decide, by decide, by decide⟩
    have fin : AW (p, l, e, room_1, s, m, #[Value.ref b], below, meth, c, 60, 2988, lw_Z below #[Value.ref b] s, fun q => s.heap.size ≤ q) (G0 D cI cZ q7 q8 qs qm tq) 16 [.ref b, .ref (gad (G0 D cI cZ q7 q8 qs qm tq) 0), .ref (gad (G0 D cI cZ q7 q8 qs qm tq) 8), .null] [] S0 := by
      refine aw_iconst hX2 (v := nI 0) (by decide) dL_law_16 ?_
      refine aw_istore_3 hX2 rfl (by decide) dL_law_17 ?_
      refine law_loop_open st_law st_round hX2 (b := b) (L := L) (xs := xs) ⟨hXs, hbl, fun z => absurd z (Nat.not_le.mpr hbl)⟩ hL (fun pc Lc S hd H1 locs1 ls1 hP1 hS1 hl1 => ?_) 4608 0 (by omega) (by omega) S0 rel_0
      refine va_forget (fun q hq => hS1.2.2 q hq) (W.widen (k := 600000) (n := 7302250) (by decide) (by decide) ?_)
      rw [show nI 1 = 1 from by decide]
      exact lw_ret hx hb hr hlocks hd
    exact fin H locs ls hP2 hS hl
  rw [lg_entry_eq]
  refine key s.heap [] _ (fun k q h => (by cases h)) ⟨fun i j x y h => (by cases h), fun k q h => (by cases h)⟩ va_S.rf ?_
  rw [hml]
  exact hasL.entry [.ref b] (by simp [lg_sl, Value.category]) (fun i v h => by have := entL_in [.ref b] 0 4 i v h; rwa [Nat.zero_add] at this)
set_option maxHeartbeats 4000000 in
theorem lw_walk (l : Launch) (b : Addr) (xs : List Int32) : MetFree l x (headSpec (Jvm.Cond.code x code maxLocals ret :: tables_1) room_1) (lw_P b xs) (fun _ _ _ _ _ => True) lw_Q := by
  refine MetFree.of_bodyS (code := code) (maxLocals := maxLocals) (ret := ret) (by decide) ?_ ?_
  · intro args s m h hn
    obtain ⟨meth, c, h1, h2, h3, h4, h5, h6, -, -⟩ := Cond.code_spec hn (atoms_spec (ws := Jvm.Cond.code x code maxLocals ret :: tables_1) h _ List.mem_cons_self)
    exact ⟨meth, c, h1, h2, h3, h4, h5, h6⟩
  · intro p e s m args below meth c s₁ B hml0 hP _
    obtain ⟨rfl, hx, hbd, hgv⟩ := hP
    obtain ⟨scr, harrAt, hlist, hof, hsmall⟩ := hx
    obtain ⟨hcb, hkn, -, -⟩ := State.arrayAt?_spec harrAt
    have hown : s.vm.findClass R_law = some m.cls := findClass_of_methodNamed B.named
    have hts0 : ∀ c ∈ (Jvm.Cond.code x code maxLocals ret :: tables_1), c.before #[Value.ref b] s = true := atoms_spec (ws := Jvm.Cond.code x code maxLocals ret :: tables_1) B.pre
    have hts : ∀ w ∈ lw_tbl, w.before #[Value.ref b] s = true := k2_hts_sels lw_privs (fun w hw => hts0 w (List.mem_cons_of_mem _ hw)) lw_privs_ok
    have hml : c.maxLocals = 4 := B.maxLocals_eq (hts0 _ List.mem_cons_self)
    have X₀ : Stand p l e room_1 s m #[Value.ref b] below meth c s₁ [] 0 0 := Stand.of_body B
    have hh0 : s₁.heap = s.heap := by rw [B.state]; rfl
    have hsz : scr.slots.size = xs.length := by rw [← Array.length_toList, hlist, List.length_map]
    have hval : ∀ j : Nat, j < xs.length → scr.slots[j]? = some (.int (xs.getD j 0)) := fun j hj => by
      rw [← Array.getElem?_toList, hlist]
      simp [hj]
    have hbl : b < s.heap.size := (Array.getElem?_eq_some_iff.mp hcb).1
    have hX : va_X b xs.length (fun j => xs.getD j 0) s s.heap := ⟨scr, hcb, hof, hkn, hsz, hval⟩
    have K : W p l e room_1 s m #[Value.ref b] below meth c s₁.heap [] 0 0 (lw_Z below #[Value.ref b] s) (entryFrame m ([Value.ref b] : List Value).toArray 4) := by
      rw [hh0]
      exact whole_start l hbd ⟨B.exec, B.bytes, B.returns, hml, hown, hts, hX, hbl, B.notSynchronized, hgv⟩
    obtain ⟨t, a1, o, b1, b2, b3⟩ := K s₁ rfl X₀
    exact ⟨t, o, a1, b1, b2, b3⟩
theorem lw_pre_spec {args : Array Value} {s : State} (h : (Jvm.Cond.and given_1 narrow_1).before args s = true) (hr : rest_1_c.before args s = true) : ∃ (b : Addr) (xs : List Int32), lw_P b xs args s := by
  have hs := flat_of_before _ h
  have hq := flat_of_before _ hr
  have hc : (Cond.count 1).before args s = true := hs _ (by decide +kernel)
  have harr : (Cond.arrayOf (.arg 0) .int).before args s = true := hs _ (by decide +kernel)
  have hle : (Cond.le (.length (.arg 0)) (.int 4608)).before args s = true := hs _ (by decide +kernel)
  have hlen : (Cond.isInt (.length (.arg 0))).before args s = true := hq _ (by decide +kernel)
  have hall : (Cond.all (.arg 0) (.isInt (.elem (.arg 0) (.index 0)))).before args s = true := hq _ (by decide +kernel)
  obtain ⟨b, xs, hb, hx⟩ := State.ints_of_pre rfl harr hlen hall
  have hsm : xs.length < 2 ^ 31 := hx.choose_spec.2.2.2
  have hev : (Term.length (.arg 0)).eval args s none [] s = some (.int xs.length.toInt32) := hx.length_eval hb
  have hv := Cond.le_ints hev (show (Term.int 4608).eval args s none [] s = some (.int 4608) from rfl)
  have hd : xs.length.toInt32 ≤ 4608 := by
    simpa [Cond.before, Cond.holds, hv] using hle
  have hN : xs.length ≤ 4608 := (Int32.ofNat_le_ofNat hsm (by decide)).mp (show Int32.ofNat xs.length ≤ Int32.ofNat 4608 from hd)
  exact ⟨b, xs, Cond.one_arg hc (show args[0]? = some (.ref b) from hb), hx, hN, h⟩
theorem lw_comes (l : Launch) : Comes l x (Jvm.Cond.code x code maxLocals ret :: tables_1) room_1 (fun tb e args s => Calls_1 tb e args s ∧ rest_1 tb e args s ∧ Pre_1 tb e args s)
    (fun _ _ args s o t => lw_Q args s o t) := by
  intro p e ha hc hk s m args below hf hfit hheap happ hpre
  obtain ⟨b, xs, hP⟩ := lw_pre_spec hpre.2.2 hpre.2.1
  obtain ⟨k, o, h1, h2, h3, hQ⟩ := lw_walk l b xs p e ha hc hk s m args below hf ((Spec.applies_iff_loose hf).mp happ).1 hP trivial
  exact ⟨k, o, h1, h2, h3, hQ⟩
theorem lw_frame {s t : State} {o : Outcome} {args : Array Value} (h : Framed s o t [] 600000 7302250) :
    Framed s o t (fieldLocs frame_1_writes args s ++ arrayLocs frame_1_arrays args s ++ staticLocs frame_1_statics s) 600000 7302250 := h
theorem lw_limb (L : Cond) (hL : ∀ (args : Array Value) (s t : State), L.after args s (.returned (some (.int 1))) t = true) :
    ArmFor flags0 classFile x code maxLocals ret World_1 tables_1 room_1 Calls_1 rest_1 Pre_1
      (fun tb e a s o t => postC L tb e a s o t ∧ Framed s o t (fieldLocs frame_1_writes a s ++ arrayLocs frame_1_arrays a s ++ staticLocs frame_1_statics s) 600000 7302250) := by
  intro l _ _ _ p e ha hc hk s m args below hf hfit hheap happ hpre
  obtain ⟨k, o, h1, h2, h3, rfl, hF⟩ := lw_comes l p e ha hc hk s m args below hf hfit hheap happ hpre
  exact ⟨k, _, h1, h2, h3, hL args s _, lw_frame hF⟩
theorem i_vc : Claimed_1_1 ∧ Claimed_1_2 := ⟨lw_limb limb_1_1 (fun args s t => by simp [limb_1_1, Cond.after, Cond.holds, Cond.value]), lw_limb limb_1_2 (fun args s t => Cond.after_iff.mpr (by
  first | (rw [show limb_1_2 = Cond.eq .result (.int 1) from rfl, Cond.eq_ints (x := 1) (y := 1) rfl rfl]; simp; done) | (simp [limb_1_2, Cond.value, Term.eval]; done)))⟩
