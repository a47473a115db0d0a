def gR (d : Nat) : Room := { frames := d, cells := 0, slots := 0, locals := 64 * d }
def gWd (G : GT) (S : St) (U : State) : Prop := va_P G.1 vwCl (gws G S) U.heap ∧ va_K G.1 vwCl (gty G) U ∧ gInj G ∧ gSt G (gA G U.heap.size) U U.heap
def gPost (G : GT) (r : Option Value) (S' : St) : Array Value → State → Outcome → State → Prop := fun _ st oc t => oc = .returned r ∧ va_P G.1 vwCl (gws G S') t.heap ∧ va_F (gA G st.heap.size) st t
/-- from the arguments av and the state S the method y answers r and leaves S'; d frames are left for it -/
def Runs (G : GT) (d : Nat) (y : MethodName) (cc : ByteArray) (mL : Nat) (ret : Option FieldType) (av : List Value) (S : St) (r : Option Value) (S' : St) : Prop :=
  ∀ (l : Launch) (sz : Nat), Met l y (.code y cc mL ret :: gtbl) (gR d) (va_Pc av (fun U => U.heap.size = sz ∧ gWd G S U)) (gPost G r S') 0 0 (gA G sz)
def entL : List Value → Nat → List Value
  | [], n => List.replicate n .null
  | v :: vs, n => if v.category = 2 then v :: .null :: entL vs (n - 2) else v :: entL vs (n - 1)
theorem entL_in : ∀ (vs : List Value) (i n j : Nat) (v : Value), (entL vs n)[j]? = some v → v = .null ∨ (i + j, v) ∈ lv_args i vs
  | [], i, n, j, v, h => Or.inl (List.eq_of_mem_replicate (List.mem_of_getElem? h))
  | w :: vs, i, n, j, v, h => by
    unfold entL at h
    split at h
    · rename_i hc
      match j, h with
      | 0, h => cases h; exact Or.inr List.mem_cons_self
      | 1, h => cases h; exact Or.inl rfl
      | j + 2, h =>
        rcases entL_in vs (i + 2) (n - 2) j v h with q | q
        · exact Or.inl q
        · refine Or.inr (List.mem_cons_of_mem _ ?_)
          rw [if_pos hc, show i + (j + 2) = i + 2 + j by omega]
          exact q
    · rename_i hc
      match j, h with
      | 0, h => cases h; exact Or.inr List.mem_cons_self
      | j + 1, h =>
        rcases entL_in vs (i + 1) (n - 1) j v h with q | q
        · exact Or.inl q
        · refine Or.inr (List.mem_cons_of_mem _ ?_)
          rw [if_neg hc, show i + (j + 1) = i + 1 + j by omega]
          exact q
section RUN
variable {G : GT} {d : Nat} {y : MethodName} {cc : ByteArray} {mL : Nat} {av : List Value} {S S' : St}

theorem runs_I {v : Int32} (hy : plainName y.cls = true) (hsl : (lg_sl av).length ≤ mL) (body : ∀ X : XT, XC X G d y.cls cc mL → (∀ (pc : Nat) (L : List Value), decode cc pc = .ok (.ireturn, 1) → AW X G pc L [.int v] S') → AW X G 0 (entL av mL) [] S) : Runs G (d + 1) y cc mL (some .int) av S (some (.int v)) S' := by
  intro l sz
  refine Met.ofW (cc := cc) (maxL := mL) (ret := (some .int)) hy rfl ?_
  intro p e s m args below meth c s₁ B hml hv
  obtain ⟨rfl, hsz0, hP, hK, hI, hZ⟩ := hv
  subst hsz0
  have hts := atoms_spec (ws := .code y cc mL (some .int) :: gtbl) B.pre
  have hlocks := B.notSynchronized
  rw [lg_entry_eq]
  refine body (p, l, e, _, s, m, av.toArray, below, meth, c, 0, 0, MQ below (gPost G (some (.int v)) S') av.toArray s 0 0 (gA G s.heap.size), gA G s.heap.size) ⟨B.exec, B.bytes, hml, findClass_of_methodNamed B.named, fun w hw => hts w (List.mem_cons_of_mem _ hw), hK, hI, fun k hk => Or.inl ⟨k, hk, rfl⟩, fun q h => Or.inr h, hZ, Nat.le_refl _, Nat.le_refl _, Nat.zero_le _, Nat.zero_le _⟩ ?_ s.heap [] _ hP va_S.rf (by rw [hml]; exact hasL.entry av hsl (fun i v h => by have := entL_in av 0 mL i v h; rwa [Nat.zero_add] at this))
  intro pc L hdg H locs ls hP hS hl
  exact W.iret (v := v) B.exec B.bytes B.returns (fun t ht hW => ⟨rfl, by rw [ht]; exact hP, hS.F ht⟩) hS.2.2 hdg
theorem runs_Z {v : Bool} (hy : plainName y.cls = true) (hsl : (lg_sl av).length ≤ mL) (body : ∀ X : XT, XC X G d y.cls cc mL → (∀ (pc : Nat) (L : List Value), decode cc pc = .ok (.ireturn, 1) → AW X G pc L [.int (bI v)] S') → AW X G 0 (entL av mL) [] S) : Runs G (d + 1) y cc mL (some .boolean) av S (some (.int (bI v))) S' := by
  intro l sz
  refine Met.ofW (cc := cc) (maxL := mL) (ret := (some .boolean)) hy rfl ?_
  intro p e s m args below meth c s₁ B hml hv
  obtain ⟨rfl, hsz0, hP, hK, hI, hZ⟩ := hv
  subst hsz0
  have hts := atoms_spec (ws := .code y cc mL (some .boolean) :: gtbl) B.pre
  have hlocks := B.notSynchronized
  rw [lg_entry_eq]
  refine body (p, l, e, _, s, m, av.toArray, below, meth, c, 0, 0, MQ below (gPost G (some (.int (bI v))) S') av.toArray s 0 0 (gA G s.heap.size), gA G s.heap.size) ⟨B.exec, B.bytes, hml, findClass_of_methodNamed B.named, fun w hw => hts w (List.mem_cons_of_mem _ hw), hK, hI, fun k hk => Or.inl ⟨k, hk, rfl⟩, fun q h => Or.inr h, hZ, Nat.le_refl _, Nat.le_refl _, Nat.zero_le _, Nat.zero_le _⟩ ?_ s.heap [] _ hP va_S.rf (by rw [hml]; exact hasL.entry av hsl (fun i v h => by have := entL_in av 0 mL i v h; rwa [Nat.zero_add] at this))
  intro pc L hdg H locs ls hP hS hl
  exact W.zret (v := bI v) B.exec B.bytes B.returns (by cases v <;> rfl) (fun t ht hW => ⟨rfl, by rw [ht]; exact hP, hS.F ht⟩) hS.2.2 hdg
theorem runs_L {v : Int64} (hy : plainName y.cls = true) (hsl : (lg_sl av).length ≤ mL) (body : ∀ X : XT, XC X G d y.cls cc mL → (∀ (pc : Nat) (L : List Value), decode cc pc = .ok (.lreturn, 1) → AW X G pc L [.long v] S') → AW X G 0 (entL av mL) [] S) : Runs G (d + 1) y cc mL (some .long) av S (some (.long v)) S' := by
  intro l sz
  refine Met.ofW (cc := cc) (maxL := mL) (ret := (some .long)) hy rfl ?_
  intro p e s m args below meth c s₁ B hml hv
  obtain ⟨rfl, hsz0, hP, hK, hI, hZ⟩ := hv
  subst hsz0
  have hts := atoms_spec (ws := .code y cc mL (some .long) :: gtbl) B.pre
  have hlocks := B.notSynchronized
  rw [lg_entry_eq]
  refine body (p, l, e, _, s, m, av.toArray, below, meth, c, 0, 0, MQ below (gPost G (some (.long v)) S') av.toArray s 0 0 (gA G s.heap.size), gA G s.heap.size) ⟨B.exec, B.bytes, hml, findClass_of_methodNamed B.named, fun w hw => hts w (List.mem_cons_of_mem _ hw), hK, hI, fun k hk => Or.inl ⟨k, hk, rfl⟩, fun q h => Or.inr h, hZ, Nat.le_refl _, Nat.le_refl _, Nat.zero_le _, Nat.zero_le _⟩ ?_ s.heap [] _ hP va_S.rf (by rw [hml]; exact hasL.entry av hsl (fun i v h => by have := entL_in av 0 mL i v h; rwa [Nat.zero_add] at this))
  intro pc L hdg H locs ls hP hS hl
  exact W.lret (v := v) B.exec B.bytes B.returns (fun t ht hW => ⟨rfl, by rw [ht]; exact hP, hS.F ht⟩) hS.2.2 hdg
theorem runs_V (hy : plainName y.cls = true) (hsl : (lg_sl av).length ≤ mL) (body : ∀ X : XT, XC X G d y.cls cc mL → (∀ (pc : Nat) (L : List Value), decode cc pc = .ok (.return_, 1) → AW X G pc L [] S') → AW X G 0 (entL av mL) [] S) : Runs G (d + 1) y cc mL none av S none S' := by
  intro l sz
  refine Met.ofW (cc := cc) (maxL := mL) (ret := none) hy rfl ?_
  intro p e s m args below meth c s₁ B hml hv
  obtain ⟨rfl, hsz0, hP, hK, hI, hZ⟩ := hv
  subst hsz0
  have hts := atoms_spec (ws := .code y cc mL none :: gtbl) B.pre
  have hlocks := B.notSynchronized
  rw [lg_entry_eq]
  refine body (p, l, e, _, s, m, av.toArray, below, meth, c, 0, 0, MQ below (gPost G none S') av.toArray s 0 0 (gA G s.heap.size), gA G s.heap.size) ⟨B.exec, B.bytes, hml, findClass_of_methodNamed B.named, fun w hw => hts w (List.mem_cons_of_mem _ hw), hK, hI, fun k hk => Or.inl ⟨k, hk, rfl⟩, fun q h => Or.inr h, hZ, Nat.le_refl _, Nat.le_refl _, Nat.zero_le _, Nat.zero_le _⟩ ?_ s.heap [] _ hP va_S.rf (by rw [hml]; exact hasL.entry av hsl (fun i v h => by have := entL_in av 0 mL i v h; rwa [Nat.zero_add] at this))
  intro pc L hdg H locs ls hP hS hl
  exact W.vret B.exec B.bytes B.returns (fun t ht hW => ⟨rfl, by rw [ht]; exact hP, hS.F ht⟩) hS.2.2 hdg
end RUN
def KY (y : MethodName) (cc : ByteArray) (mL : Nat) (ret : Option FieldType) (n : Nat) : Prop := Cond.initialized y.cls ∈ gtbl ∧ Cond.code y cc mL ret ∈ gtbl ∧ (y.cls ≠ "java/lang/invoke/MethodHandle" ∧ y.cls ≠ "java/lang/invoke/VarHandle" ∧ (parseMethodDescriptor y.desc).map (fun d => d.parameters.length) = some n) ∧ mL ≤ 45
section CALLS
variable {X : XT} {G : GT} {d : Nat} {own : String} {cc : ByteArray} {nL : Nat} {pc : Nat} {L : List Value} {S S' : St} {y : MethodName} {cc2 : ByteArray} {mL n idx : Nat} {ret : Option FieldType} {As rest st0 : List Value} {r : Option Value}
theorem ky_good (h : KY y cc2 mL ret n) : GoodIn gtbl (.code y cc2 mL ret :: gtbl) := by
  intro w hw
  have hm : w ∈ gtbl := by
    rcases List.mem_cons.mp hw with rfl | hw
    · exact h.2.1
    · exact hw
  exact ⟨hm, good_of_word (tbl_good w hm)⟩
theorem blind_gWd {av : List Value} {sz : Nat} : FrameBlind (va_Pc av (fun U => U.heap.size = sz ∧ gWd G S U)) := by
  intro a U g mk q
  obtain ⟨q0, q1, qP, qK, qI, qZ⟩ := q
  exact ⟨q0, q1, qP, va_K.moved (u := U) (U := U.calling g mk a) (Vm.Alike.refl U.vm) qK, qI, va_Z.moved (u := U) (U := U.calling g mk a) (Vm.Alike.refl U.vm) qZ.1, va_T.moved (u := U) (U := U.calling g mk a) (Vm.Alike.refl U.vm) qZ.2⟩
theorem gWd_in {A : Nat → Prop} {s U : State} {H : Heap} {locs : List Loc} (hP : va_P G.1 vwCl (gws G S) H) (hK : va_K G.1 vwCl (gty G) s) (hI : gInj G) (hA : ∀ k : Nat, k < 60 → A (gad G k)) (hA2 : ∀ q : Nat, s.heap.size ≤ q → A q) (hZ : gSt G A s s.heap) (hS : va_S A s.heap H locs) (hU : U.heap = H) (hW : s.WarmedH U.vm) : gWd G S U := by
  have hsub : ∀ q, gA G U.heap.size q → A q := by
    intro q h
    rcases h with ⟨k, hk, rfl⟩ | h
    · exact hA k hk
    · rw [hU] at h
      exact hA2 q (Nat.le_trans hS.1 h)
  refine ⟨by rw [hU]; exact hP, va_K.moved hW.alike hK, hI, ?_, ?_⟩
  · rw [hU]
    rw [hU] at hsub
    exact ((hZ.1.kept (fun a h1 h2 => hS.2.1 a h1 h2)).moved hW.alike).narrow hsub
  · rw [hU]
    rw [hU] at hsub
    exact ((hZ.2.kept (fun a h1 h2 => hS.2.1 a h1 h2)).moved hW.alike).narrow hsub
theorem ac_go {p : Program} {l : Launch} {e : Env} {R : Room} {s : State} {m : MethodId} {args : Array Value} {below : List Frame} {meth : Method} {c : Code} {H : Heap} {locs : List Loc} {cells slots : Nat} {Q : State → Prop} {A : Nat → Prop} {ls : Array Slot} {a : Array Value}
    (hr : va_Run p l e R s m args below meth c H locs cells slots 0 0 (F0 m pc ls st0) rest (gPost G r S' a) (gA G H.size)) (hS : va_S A s.heap H locs) (hA : ∀ k : Nat, k < 60 → A (gad G k)) (hA2 : ∀ q : Nat, s.heap.size ≤ q → A q)
    (kk : ∀ (H1 : Heap) (locs1 : List Loc), va_P G.1 vwCl (gws G S') H1 → va_S A s.heap H1 locs1 → W p l e R s m args below meth c H1 locs1 cells slots Q (F0 m (pc + 3) ls (r.toList ++ rest))) : W p l e R s m args below meth c H locs cells slots Q (F0 m pc ls st0) := by
  have hsub : ∀ q, gA G H.size q → A q := by
    intro q h
    rcases h with ⟨k, hk, rfl⟩ | h
    · exact hA k hk
    · exact hA2 q (Nat.le_trans hS.1 h)
  intro T hT X
  obtain ⟨v, st₀, t, T', L, h0, X', hL, e1, e2, ⟨hv, hP, hz, hk⟩, st⟩ := hr T hT X
  cases hv
  rw [h0] at hz hk
  obtain ⟨t2, a1, b1⟩ := kk T'.heap (locs ++ L) (by rw [e1]; exact hP)
    ⟨Nat.le_trans hS.1 (by rw [e1]; exact hz), fun q h1 h2 => by rw [e1, hk q (Nat.lt_of_lt_of_le h1 hS.1) (fun z => h2 (hsub q z))]; exact hS.2.1 q h1 h2, fun q hq => by
      rcases List.mem_append.mp hq with h | h
      · exact hS.2.2 q h
      · exact hsub _ (hL q h)⟩ T' rfl X'
  exact ⟨t2, st t2 a1, b1⟩
theorem ac_V (hX : XC X G d own cc nL) {C : String} {o ci : Nat} {fs : List Value} {q : vw_C} (hd : decode cc pc = .ok (.invokevirtual idx, 3)) (hml : Cond.methodLink own idx y ∈ gtbl) (hky : KY y cc2 mL ret n) (him : Cond.instanceMethod y ∈ gtbl) (hse : Cond.selects q.1 y y ∈ gtbl) (hr : Runs G d y cc2 mL ret (.ref (gad G o) :: As) S r S') (hn : As.length = n) (he : (gws G S)[o]? = some (gad G o, .inr (ci, fs))) (hc : vwCl[ci]? = some q) (hst : (rest.map fun v => v.category).sum ≤ 8) (hs0 : st0 = As.reverse ++ .ref (gad G o) :: rest) (k : AW X G (pc + 3) L (r.toList ++ rest) S') : AW X G pc L st0 S := by
  obtain ⟨p, l, e, R, s, m, args, below, meth, c, cells, slots, Q, A⟩ := X
  intro H locs ls hP hS hl
  obtain ⟨hx, hb, hnl, hown, hts, hK, hI, hA, hA2, hZ, hfr, hlo, hce, hsl⟩ := hX
  have hB : CallB R s args own idx y cc2 mL ret (.code y cc2 mL ret :: gtbl) (gR d) 0 0 n := callB_of n hts (ky_good hky) rfl rfl rfl (hts _ hky.1) (hts _ hml) hky.2.2.1 ⟨hfr, by have := hky.2.2.2; show 8 + (mL + 11) + 64 * d ≤ R.locals; omega⟩
  refine ac_go (va_runV (C := q.1) (nL := c.maxLocals) (As := As) (rest := rest) ⟨hx, hb, rfl, hown, hts⟩ (hr l H.size) ⟨hB, hts _ him, hts _ hse⟩ ⟨blind_gWd, va_recv hK hP hc he, fun U hU hW => ⟨rfl, by rw [hU], gWd_in hP hK hI hA hA2 hZ hS hU hW⟩⟩ rfl hn hl.1 hs0 (lv_room hst) hd ⟨hce, hsl⟩) hS hA hA2 (fun H1 locs1 hP1 hS1 => k H1 locs1 ls hP1 hS1 hl)
theorem ac_S (hX : XC X G d own cc nL) (hd : decode cc pc = .ok (.invokestatic idx, 3)) (hml : Cond.methodLink own idx y ∈ gtbl) (hky : KY y cc2 mL ret n) (hsm : Cond.static y ∈ gtbl) (hr : Runs G d y cc2 mL ret As S r S') (hn : As.length = n) (hst : (rest.map fun v => v.category).sum ≤ 8) (hs0 : st0 = As.reverse ++ rest) (k : AW X G (pc + 3) L (r.toList ++ rest) S') : AW X G pc L st0 S := by
  obtain ⟨p, l, e, R, s, m, args, below, meth, c, cells, slots, Q, A⟩ := X
  intro H locs ls hP hS hl
  obtain ⟨hx, hb, hnl, hown, hts, hK, hI, hA, hA2, hZ, hfr, hlo, hce, hsl⟩ := hX
  have hB : CallB R s args own idx y cc2 mL ret (.code y cc2 mL ret :: gtbl) (gR d) 0 0 n := callB_of n hts (ky_good hky) rfl rfl rfl (hts _ hky.1) (hts _ hml) hky.2.2.1 ⟨hfr, by have := hky.2.2.2; show 8 + (mL + 11) + 64 * d ≤ R.locals; omega⟩
  refine ac_go (va_runS (nL := c.maxLocals) (As := As) (rest := rest) ⟨hx, hb, rfl, hown, hts⟩ (hr l H.size) ⟨hB, hts _ hsm⟩ ⟨blind_gWd, fun U hU hW => ⟨rfl, by rw [hU], gWd_in hP hK hI hA hA2 hZ hS hU hW⟩⟩ rfl hn hl.1 hs0 (lv_room hst) hd ⟨hce, hsl⟩) hS hA hA2 (fun H1 locs1 hP1 hS1 => k H1 locs1 ls hP1 hS1 hl)
theorem aw_abs (hX : XC X G d own cc nL) {x : Int32} (hml : Cond.methodLink own idx yJ9_abs_0f7a4 ∈ gtbl) (hd : decode cc pc = .ok (.invokestatic idx, 3)) (hst : (rest.map fun v => v.category).sum ≤ 8) (k : AW X G (pc + 3) L (.int (if 0 ≤ x then x else 0 - x) :: rest) S) : AW X G pc L (.int x :: rest) S := by
  obtain ⟨p, l, e, R, s, m, args, below, meth, c, cells, slots, Q, A⟩ := X
  intro H locs ls hP hS hl
  obtain ⟨hx, hb, hnl, hown, hts, hK, hI, hA, hA2, hZ, hfr, hlo, hce, hsl⟩ := hX
  exact va_mabs hx hb hl.1.symm hown (hts _ hml) (hts _ sm_yJ9_abs_0f7a4) (hts _ in_J9) (hts _ co_yJ9_abs_0f7a4) (by omega) (by omega) hce hsl hd (k H locs ls hP hS hl)
theorem aw_max (hX : XC X G d own cc nL) {x z : Int32} (hml : Cond.methodLink own idx yJ9_max_7cf53 ∈ gtbl) (hd : decode cc pc = .ok (.invokestatic idx, 3)) (hst : (rest.map fun v => v.category).sum ≤ 8) (k : AW X G (pc + 3) L (.int (if x < z then z else x) :: rest) S) : AW X G pc L (.int z :: .int x :: rest) S := by
  obtain ⟨p, l, e, R, s, m, args, below, meth, c, cells, slots, Q, A⟩ := X
  intro H locs ls hP hS hl
  obtain ⟨hx, hb, hnl, hown, hts, hK, hI, hA, hA2, hZ, hfr, hlo, hce, hsl⟩ := hX
  exact va_mmax hx hb hl.1.symm hown (hts _ hml) (hts _ sm_yJ9_max_7cf53) (hts _ in_J9) (hts _ co_yJ9_max_7cf53) (by omega) (by omega) hce hsl hd (k H locs ls hP hS hl)
end CALLS
section AWC
variable {X : XT} {G : GT} {d : Nat} {own : String} {cc : ByteArray} {nL : Nat} {pc : Nat} {L st : List Value} {S S' : St} {idx : Nat}
theorem ky_X7_type : KY yX7_type cX7_type 4 (some .int) 2 := ⟨in_X7, co_yX7_type, by decide +kernel, by decide⟩
abbrev rX7_type (G : GT) (d : Nat) (av : List Value) (S : St) (r : Option Value) (S' : St) : Prop := Runs G d yX7_type cX7_type 4 (some .int) av S r S'
theorem cv_X7_type (hX : XC X G d own cc nL) {a0 a1 : Value} {v : Int32} (hml : Cond.methodLink own idx yX7_type ∈ gtbl) (hd : decode cc pc = .ok (.invokevirtual idx, 3)) (hr : rX7_type G d [.ref (gad G 0), a0, a1] S (some (.int v)) S') (hst : (st.map fun v => v.category).sum ≤ 8) (k : AW X G (pc + 3) L (.int v :: st) S') : AW X G pc L (a1 :: a0 :: .ref (gad G 0) :: st) S :=
  ac_V hX (As := [a0, a1]) (C := RX7) hd hml ky_X7_type im_yX7_type se_yX7_type hr rfl rfl rfl hst rfl k
theorem ky_X7_within : KY yX7_within cX7_within 3 (some .boolean) 3 := ⟨in_X7, co_yX7_within, by decide +kernel, by decide⟩
abbrev rX7_within (G : GT) (d : Nat) (av : List Value) (S : St) (r : Option Value) (S' : St) : Prop := Runs G d yX7_within cX7_within 3 (some .boolean) av S r S'
theorem cs_X7_within (hX : XC X G d own cc nL) {a0 a1 a2 : Value} {v : Int32} (hml : Cond.methodLink own idx yX7_within ∈ gtbl) (hd : decode cc pc = .ok (.invokestatic idx, 3)) (hr : rX7_within G d [a0, a1, a2] S (some (.int v)) S') (hst : (st.map fun v => v.category).sum ≤ 8) (k : AW X G (pc + 3) L (.int v :: st) S') : AW X G pc L (a2 :: a1 :: a0 :: st) S :=
  ac_S hX (As := [a0, a1, a2]) hd hml ky_X7_within sm_yX7_within hr rfl hst rfl k
theorem ky_X0_hasRoomFor : KY yX0_hasRoomFor cX0_hasRoomFor 2 (some .boolean) 1 := ⟨in_X0, co_yX0_hasRoomFor, by decide +kernel, by decide⟩
abbrev rX0_hasRoomFor (G : GT) (d : Nat) (av : List Value) (S : St) (r : Option Value) (S' : St) : Prop := Runs G d yX0_hasRoomFor cX0_hasRoomFor 2 (some .boolean) av S r S'
theorem cv_X0_hasRoomFor (hX : XC X G d own cc nL) {a0 : Value} {v : Int32} (hml : Cond.methodLink own idx yX0_hasRoomFor ∈ gtbl) (hd : decode cc pc = .ok (.invokevirtual idx, 3)) (hr : rX0_hasRoomFor G d [.ref (gad G 1), a0] S (some (.int v)) S') (hst : (st.map fun v => v.category).sum ≤ 8) (k : AW X G (pc + 3) L (.int v :: st) S') : AW X G pc L (a0 :: .ref (gad G 1) :: st) S :=
  ac_V hX (As := [a0]) (C := RX0) hd hml ky_X0_hasRoomFor im_yX0_hasRoomFor se_yX0_hasRoomFor hr rfl rfl rfl hst rfl k
theorem ky_X0_append : KY yX0_append cX0_append 5 none 2 := ⟨in_X0, co_yX0_append, by decide +kernel, by decide⟩
abbrev rX0_append (G : GT) (d : Nat) (av : List Value) (S : St) (r : Option Value) (S' : St) : Prop := Runs G d yX0_append cX0_append 5 none av S r S'
theorem cv_X0_append (hX : XC X G d own cc nL) {a0 a1 : Value} (hml : Cond.methodLink own idx yX0_append ∈ gtbl) (hd : decode cc pc = .ok (.invokevirtual idx, 3)) (hr : rX0_append G d [.ref (gad G 1), a0, a1] S none S') (hst : (st.map fun v => v.category).sum ≤ 8) (k : AW X G (pc + 3) L (st) S') : AW X G pc L (a1 :: a0 :: .ref (gad G 1) :: st) S :=
  ac_V hX (As := [a0, a1]) (C := RX0) hd hml ky_X0_append im_yX0_append se_yX0_append hr rfl rfl rfl hst rfl k
theorem ky_X7_clear : KY yX7_clear cX7_clear 1 (some .int) 0 := ⟨in_X7, co_yX7_clear, by decide +kernel, by decide⟩
abbrev rX7_clear (G : GT) (d : Nat) (av : List Value) (S : St) (r : Option Value) (S' : St) : Prop := Runs G d yX7_clear cX7_clear 1 (some .int) av S r S'
theorem cv_X7_clear (hX : XC X G d own cc nL) {v : Int32} (hml : Cond.methodLink own idx yX7_clear ∈ gtbl) (hd : decode cc pc = .ok (.invokevirtual idx, 3)) (hr : rX7_clear G d [.ref (gad G 0)] S (some (.int v)) S') (hst : (st.map fun v => v.category).sum ≤ 8) (k : AW X G (pc + 3) L (.int v :: st) S') : AW X G pc L (.ref (gad G 0) :: st) S :=
  ac_V hX (As := []) (C := RX7) hd hml ky_X7_clear im_yX7_clear se_yX7_clear hr rfl rfl rfl hst rfl k
theorem ky_X0_empty : KY yX0_empty cX0_empty 2 (some .int) 0 := ⟨in_X0, co_yX0_empty, by decide +kernel, by decide⟩
abbrev rX0_empty (G : GT) (d : Nat) (av : List Value) (S : St) (r : Option Value) (S' : St) : Prop := Runs G d yX0_empty cX0_empty 2 (some .int) av S r S'
theorem cv_X0_empty (hX : XC X G d own cc nL) {v : Int32} (hml : Cond.methodLink own idx yX0_empty ∈ gtbl) (hd : decode cc pc = .ok (.invokevirtual idx, 3)) (hr : rX0_empty G d [.ref (gad G 1)] S (some (.int v)) S') (hst : (st.map fun v => v.category).sum ≤ 8) (k : AW X G (pc + 3) L (.int v :: st) S') : AW X G pc L (.ref (gad G 1) :: st) S :=
  ac_V hX (As := []) (C := RX0) hd hml ky_X0_empty im_yX0_empty se_yX0_empty hr rfl rfl rfl hst rfl k
theorem ky_X7_law : KY yX7_law cX7_law 3 (some .int) 0 := ⟨in_X7, co_yX7_law, by decide +kernel, by decide⟩
abbrev rX7_law (G : GT) (d : Nat) (av : List Value) (S : St) (r : Option Value) (S' : St) : Prop := Runs G d yX7_law cX7_law 3 (some .int) av S r S'
theorem cv_X7_law (hX : XC X G d own cc nL) {v : Int32} (hml : Cond.methodLink own idx yX7_law ∈ gtbl) (hd : decode cc pc = .ok (.invokevirtual idx, 3)) (hr : rX7_law G d [.ref (gad G 0)] S (some (.int v)) S') (hst : (st.map fun v => v.category).sum ≤ 8) (k : AW X G (pc + 3) L (.int v :: st) S') : AW X G pc L (.ref (gad G 0) :: st) S :=
  ac_V hX (As := []) (C := RX7) hd hml ky_X7_law im_yX7_law se_yX7_law hr rfl rfl rfl hst rfl k
theorem ky_X0_readItems : KY yX0_readItems cX0_readItems 2 (some .int) 0 := ⟨in_X0, co_yX0_readItems, by decide +kernel, by decide⟩
abbrev rX0_readItems (G : GT) (d : Nat) (av : List Value) (S : St) (r : Option Value) (S' : St) : Prop := Runs G d yX0_readItems cX0_readItems 2 (some .int) av S r S'
theorem cv_X0_readItems (hX : XC X G d own cc nL) {v : Int32} (hml : Cond.methodLink own idx yX0_readItems ∈ gtbl) (hd : decode cc pc = .ok (.invokevirtual idx, 3)) (hr : rX0_readItems G d [.ref (gad G 1)] S (some (.int v)) S') (hst : (st.map fun v => v.category).sum ≤ 8) (k : AW X G (pc + 3) L (.int v :: st) S') : AW X G pc L (.ref (gad G 1) :: st) S :=
  ac_V hX (As := []) (C := RX0) hd hml ky_X0_readItems im_yX0_readItems se_yX0_readItems hr rfl rfl rfl hst rfl k
theorem ky_X0_readStep : KY yX0_readStep cX0_readStep 2 (some .boolean) 1 := ⟨in_X0, co_yX0_readStep, by decide +kernel, by decide⟩
abbrev rX0_readStep (G : GT) (d : Nat) (av : List Value) (S : St) (r : Option Value) (S' : St) : Prop := Runs G d yX0_readStep cX0_readStep 2 (some .boolean) av S r S'
theorem cv_X0_readStep (hX : XC X G d own cc nL) {a0 : Value} {v : Int32} (hml : Cond.methodLink own idx yX0_readStep ∈ gtbl) (hd : decode cc pc = .ok (.invokevirtual idx, 3)) (hr : rX0_readStep G d [.ref (gad G 1), a0] S (some (.int v)) S') (hst : (st.map fun v => v.category).sum ≤ 8) (k : AW X G (pc + 3) L (.int v :: st) S') : AW X G pc L (a0 :: .ref (gad G 1) :: st) S :=
  ac_V hX (As := [a0]) (C := RX0) hd hml ky_X0_readStep im_yX0_readStep se_yX0_readStep hr rfl rfl rfl hst rfl k
theorem ky_X0_readFrom : KY yX0_readFrom cX0_readFrom 1 (some .boolean) 0 := ⟨in_X0, co_yX0_readFrom, by decide +kernel, by decide⟩
abbrev rX0_readFrom (G : GT) (d : Nat) (av : List Value) (S : St) (r : Option Value) (S' : St) : Prop := Runs G d yX0_readFrom cX0_readFrom 1 (some .boolean) av S r S'
theorem cv_X0_readFrom (hX : XC X G d own cc nL) {v : Int32} (hml : Cond.methodLink own idx yX0_readFrom ∈ gtbl) (hd : decode cc pc = .ok (.invokevirtual idx, 3)) (hr : rX0_readFrom G d [.ref (gad G 1)] S (some (.int v)) S') (hst : (st.map fun v => v.category).sum ≤ 8) (k : AW X G (pc + 3) L (.int v :: st) S') : AW X G pc L (.ref (gad G 1) :: st) S :=
  ac_V hX (As := []) (C := RX0) hd hml ky_X0_readFrom im_yX0_readFrom se_yX0_readFrom hr rfl rfl rfl hst rfl k
theorem ky_X0_readNumber : KY yX0_readNumber cX0_readNumber 4 (some .boolean) 2 := ⟨in_X0, co_yX0_readNumber, by decide +kernel, by decide⟩
abbrev rX0_readNumber (G : GT) (d : Nat) (av : List Value) (S : St) (r : Option Value) (S' : St) : Prop := Runs G d yX0_readNumber cX0_readNumber 4 (some .boolean) av S r S'
theorem cv_X0_readNumber (hX : XC X G d own cc nL) {a0 a1 : Value} {v : Int32} (hml : Cond.methodLink own idx yX0_readNumber ∈ gtbl) (hd : decode cc pc = .ok (.invokevirtual idx, 3)) (hr : rX0_readNumber G d [.ref (gad G 1), a0, a1] S (some (.int v)) S') (hst : (st.map fun v => v.category).sum ≤ 8) (k : AW X G (pc + 3) L (.int v :: st) S') : AW X G pc L (a1 :: a0 :: .ref (gad G 1) :: st) S :=
  ac_V hX (As := [a0, a1]) (C := RX0) hd hml ky_X0_readNumber im_yX0_readNumber se_yX0_readNumber hr rfl rfl rfl hst rfl k
theorem ky_X0_digitAtPlace : KY yX0_digitAtPlace cX0_digitAtPlace 2 (some .int) 0 := ⟨in_X0, co_yX0_digitAtPlace, by decide +kernel, by decide⟩
abbrev rX0_digitAtPlace (G : GT) (d : Nat) (av : List Value) (S : St) (r : Option Value) (S' : St) : Prop := Runs G d yX0_digitAtPlace cX0_digitAtPlace 2 (some .int) av S r S'
theorem cv_X0_digitAtPlace (hX : XC X G d own cc nL) {v : Int32} (hml : Cond.methodLink own idx yX0_digitAtPlace ∈ gtbl) (hd : decode cc pc = .ok (.invokevirtual idx, 3)) (hr : rX0_digitAtPlace G d [.ref (gad G 1)] S (some (.int v)) S') (hst : (st.map fun v => v.category).sum ≤ 8) (k : AW X G (pc + 3) L (.int v :: st) S') : AW X G pc L (.ref (gad G 1) :: st) S :=
  ac_V hX (As := []) (C := RX0) hd hml ky_X0_digitAtPlace im_yX0_digitAtPlace se_yX0_digitAtPlace hr rfl rfl rfl hst rfl k
theorem ky_X0_readSpan : KY yX0_readSpan cX0_readSpan 2 (some .boolean) 1 := ⟨in_X0, co_yX0_readSpan, by decide +kernel, by decide⟩
abbrev rX0_readSpan (G : GT) (d : Nat) (av : List Value) (S : St) (r : Option Value) (S' : St) : Prop := Runs G d yX0_readSpan cX0_readSpan 2 (some .boolean) av S r S'
theorem cv_X0_readSpan (hX : XC X G d own cc nL) {a0 : Value} {v : Int32} (hml : Cond.methodLink own idx yX0_readSpan ∈ gtbl) (hd : decode cc pc = .ok (.invokevirtual idx, 3)) (hr : rX0_readSpan G d [.ref (gad G 1), a0] S (some (.int v)) S') (hst : (st.map fun v => v.category).sum ≤ 8) (k : AW X G (pc + 3) L (.int v :: st) S') : AW X G pc L (a0 :: .ref (gad G 1) :: st) S :=
  ac_V hX (As := [a0]) (C := RX0) hd hml ky_X0_readSpan im_yX0_readSpan se_yX0_readSpan hr rfl rfl rfl hst rfl k
theorem ky_X3_isFull : KY yX3_isFull cX3_isFull 1 (some .boolean) 0 := ⟨in_X3, co_yX3_isFull, by decide +kernel, by decide⟩
abbrev rX3_isFull (G : GT) (d : Nat) (av : List Value) (S : St) (r : Option Value) (S' : St) : Prop := Runs G d yX3_isFull cX3_isFull 1 (some .boolean) av S r S'
theorem cv_X3_isFull (hX : XC X G d own cc nL) {v : Int32} (hml : Cond.methodLink own idx yX3_isFull ∈ gtbl) (hd : decode cc pc = .ok (.invokevirtual idx, 3)) (hr : rX3_isFull G d [.ref (gad G 2)] S (some (.int v)) S') (hst : (st.map fun v => v.category).sum ≤ 8) (k : AW X G (pc + 3) L (.int v :: st) S') : AW X G pc L (.ref (gad G 2) :: st) S :=
  ac_V hX (As := []) (C := RX3) hd hml ky_X3_isFull im_yX3_isFull se_yX3_isFull hr rfl rfl rfl hst rfl k
theorem ky_X3_add : KY yX3_add cX3_add 5 (some .int) 2 := ⟨in_X3, co_yX3_add, by decide +kernel, by decide⟩
abbrev rX3_add (G : GT) (d : Nat) (av : List Value) (S : St) (r : Option Value) (S' : St) : Prop := Runs G d yX3_add cX3_add 5 (some .int) av S r S'
theorem cv_X3_add (hX : XC X G d own cc nL) {a0 a1 : Value} {v : Int32} (hml : Cond.methodLink own idx yX3_add ∈ gtbl) (hd : decode cc pc = .ok (.invokevirtual idx, 3)) (hr : rX3_add G d [.ref (gad G 2), a0, a1] S (some (.int v)) S') (hst : (st.map fun v => v.category).sum ≤ 8) (k : AW X G (pc + 3) L (.int v :: st) S') : AW X G pc L (a1 :: a0 :: .ref (gad G 2) :: st) S :=
  ac_V hX (As := [a0, a1]) (C := RX3) hd hml ky_X3_add im_yX3_add se_yX3_add hr rfl rfl rfl hst rfl k
theorem ky_X7_span : KY yX7_span cX7_span 3 (some .int) 2 := ⟨in_X7, co_yX7_span, by decide +kernel, by decide⟩
abbrev rX7_span (G : GT) (d : Nat) (av : List Value) (S : St) (r : Option Value) (S' : St) : Prop := Runs G d yX7_span cX7_span 3 (some .int) av S r S'
theorem cv_X7_span (hX : XC X G d own cc nL) {a0 a1 : Value} {v : Int32} (hml : Cond.methodLink own idx yX7_span ∈ gtbl) (hd : decode cc pc = .ok (.invokevirtual idx, 3)) (hr : rX7_span G d [.ref (gad G 0), a0, a1] S (some (.int v)) S') (hst : (st.map fun v => v.category).sum ≤ 8) (k : AW X G (pc + 3) L (.int v :: st) S') : AW X G pc L (a1 :: a0 :: .ref (gad G 0) :: st) S :=
  ac_V hX (As := [a0, a1]) (C := RX7) hd hml ky_X7_span im_yX7_span se_yX7_span hr rfl rfl rfl hst rfl k
theorem ky_X3_spanOn : KY yX3_spanOn cX3_spanOn 5 (some .int) 2 := ⟨in_X3, co_yX3_spanOn, by decide +kernel, by decide⟩
abbrev rX3_spanOn (G : GT) (d : Nat) (av : List Value) (S : St) (r : Option Value) (S' : St) : Prop := Runs G d yX3_spanOn cX3_spanOn 5 (some .int) av S r S'
theorem cv_X3_spanOn (hX : XC X G d own cc nL) {a0 a1 : Value} {v : Int32} (hml : Cond.methodLink own idx yX3_spanOn ∈ gtbl) (hd : decode cc pc = .ok (.invokevirtual idx, 3)) (hr : rX3_spanOn G d [.ref (gad G 2), a0, a1] S (some (.int v)) S') (hst : (st.map fun v => v.category).sum ≤ 8) (k : AW X G (pc + 3) L (.int v :: st) S') : AW X G pc L (a1 :: a0 :: .ref (gad G 2) :: st) S :=
  ac_V hX (As := [a0, a1]) (C := RX3) hd hml ky_X3_spanOn im_yX3_spanOn se_yX3_spanOn hr rfl rfl rfl hst rfl k
theorem ky_X3_inForce : KY yX3_inForce cX3_inForce 3 (some .int) 1 := ⟨in_X3, co_yX3_inForce, by decide +kernel, by decide⟩
abbrev rX3_inForce (G : GT) (d : Nat) (av : List Value) (S : St) (r : Option Value) (S' : St) : Prop := Runs G d yX3_inForce cX3_inForce 3 (some .int) av S r S'
theorem cv_X3_inForce (hX : XC X G d own cc nL) {a0 : Value} {v : Int32} (hml : Cond.methodLink own idx yX3_inForce ∈ gtbl) (hd : decode cc pc = .ok (.invokevirtual idx, 3)) (hr : rX3_inForce G d [.ref (gad G 2), a0] S (some (.int v)) S') (hst : (st.map fun v => v.category).sum ≤ 8) (k : AW X G (pc + 3) L (.int v :: st) S') : AW X G pc L (a0 :: .ref (gad G 2) :: st) S :=
  ac_V hX (As := [a0]) (C := RX3) hd hml ky_X3_inForce im_yX3_inForce se_yX3_inForce hr rfl rfl rfl hst rfl k
theorem ky_X7_days : KY yX7_days cX7_days 2 (some .int) 1 := ⟨in_X7, co_yX7_days, by decide +kernel, by decide⟩
abbrev rX7_days (G : GT) (d : Nat) (av : List Value) (S : St) (r : Option Value) (S' : St) : Prop := Runs G d yX7_days cX7_days 2 (some .int) av S r S'
theorem cv_X7_days (hX : XC X G d own cc nL) {a0 : Value} {v : Int32} (hml : Cond.methodLink own idx yX7_days ∈ gtbl) (hd : decode cc pc = .ok (.invokevirtual idx, 3)) (hr : rX7_days G d [.ref (gad G 0), a0] S (some (.int v)) S') (hst : (st.map fun v => v.category).sum ≤ 8) (k : AW X G (pc + 3) L (.int v :: st) S') : AW X G pc L (a0 :: .ref (gad G 0) :: st) S :=
  ac_V hX (As := [a0]) (C := RX7) hd hml ky_X7_days im_yX7_days se_yX7_days hr rfl rfl rfl hst rfl k
theorem ky_X7_flue : KY yX7_flue cX7_flue 9 (some .int) 8 := ⟨in_X7, co_yX7_flue, by decide +kernel, by decide⟩
abbrev rX7_flue (G : GT) (d : Nat) (av : List Value) (S : St) (r : Option Value) (S' : St) : Prop := Runs G d yX7_flue cX7_flue 9 (some .int) av S r S'
theorem cv_X7_flue (hX : XC X G d own cc nL) {a0 a1 a2 a3 a4 a5 a6 a7 : Value} {v : Int32} (hml : Cond.methodLink own idx yX7_flue ∈ gtbl) (hd : decode cc pc = .ok (.invokevirtual idx, 3)) (hr : rX7_flue G d [.ref (gad G 0), a0, a1, a2, a3, a4, a5, a6, a7] S (some (.int v)) S') (hst : (st.map fun v => v.category).sum ≤ 8) (k : AW X G (pc + 3) L (.int v :: st) S') : AW X G pc L (a7 :: a6 :: a5 :: a4 :: a3 :: a2 :: a1 :: a0 :: .ref (gad G 0) :: st) S :=
  ac_V hX (As := [a0, a1, a2, a3, a4, a5, a6, a7]) (C := RX7) hd hml ky_X7_flue im_yX7_flue se_yX7_flue hr rfl rfl rfl hst rfl k
theorem ky_X7_isBody : KY yX7_isBody cX7_isBody 5 (some .boolean) 5 := ⟨in_X7, co_yX7_isBody, by decide +kernel, by decide⟩
abbrev rX7_isBody (G : GT) (d : Nat) (av : List Value) (S : St) (r : Option Value) (S' : St) : Prop := Runs G d yX7_isBody cX7_isBody 5 (some .boolean) av S r S'
theorem cs_X7_isBody (hX : XC X G d own cc nL) {a0 a1 a2 a3 a4 : Value} {v : Int32} (hml : Cond.methodLink own idx yX7_isBody ∈ gtbl) (hd : decode cc pc = .ok (.invokestatic idx, 3)) (hr : rX7_isBody G d [a0, a1, a2, a3, a4] S (some (.int v)) S') (hst : (st.map fun v => v.category).sum ≤ 8) (k : AW X G (pc + 3) L (.int v :: st) S') : AW X G pc L (a4 :: a3 :: a2 :: a1 :: a0 :: st) S :=
  ac_S hX (As := [a0, a1, a2, a3, a4]) hd hml ky_X7_isBody sm_yX7_isBody hr rfl hst rfl k
theorem ky_X7_isPlace : KY yX7_isPlace cX7_isPlace 2 (some .boolean) 2 := ⟨in_X7, co_yX7_isPlace, by decide +kernel, by decide⟩
abbrev rX7_isPlace (G : GT) (d : Nat) (av : List Value) (S : St) (r : Option Value) (S' : St) : Prop := Runs G d yX7_isPlace cX7_isPlace 2 (some .boolean) av S r S'
theorem cs_X7_isPlace (hX : XC X G d own cc nL) {a0 a1 : Value} {v : Int32} (hml : Cond.methodLink own idx yX7_isPlace ∈ gtbl) (hd : decode cc pc = .ok (.invokestatic idx, 3)) (hr : rX7_isPlace G d [a0, a1] S (some (.int v)) S') (hst : (st.map fun v => v.category).sum ≤ 8) (k : AW X G (pc + 3) L (.int v :: st) S') : AW X G pc L (a1 :: a0 :: st) S :=
  ac_S hX (As := [a0, a1]) hd hml ky_X7_isPlace sm_yX7_isPlace hr rfl hst rfl k
theorem ky_X7_isHand : KY yX7_isHand cX7_isHand 1 (some .boolean) 1 := ⟨in_X7, co_yX7_isHand, by decide +kernel, by decide⟩
abbrev rX7_isHand (G : GT) (d : Nat) (av : List Value) (S : St) (r : Option Value) (S' : St) : Prop := Runs G d yX7_isHand cX7_isHand 1 (some .boolean) av S r S'
theorem cs_X7_isHand (hX : XC X G d own cc nL) {a0 : Value} {v : Int32} (hml : Cond.methodLink own idx yX7_isHand ∈ gtbl) (hd : decode cc pc = .ok (.invokestatic idx, 3)) (hr : rX7_isHand G d [a0] S (some (.int v)) S') (hst : (st.map fun v => v.category).sum ≤ 8) (k : AW X G (pc + 3) L (.int v :: st) S') : AW X G pc L (a0 :: st) S :=
  ac_S hX (As := [a0]) hd hml ky_X7_isHand sm_yX7_isHand hr rfl hst rfl k
theorem ky_X2_isFull : KY yX2_isFull cX2_isFull 1 (some .boolean) 0 := ⟨in_X2, co_yX2_isFull, by decide +kernel, by decide⟩
abbrev rX2_isFull (G : GT) (d : Nat) (av : List Value) (S : St) (r : Option Value) (S' : St) : Prop := Runs G d yX2_isFull cX2_isFull 1 (some .boolean) av S r S'
theorem cv_X2_isFull (hX : XC X G d own cc nL) {v : Int32} (hml : Cond.methodLink own idx yX2_isFull ∈ gtbl) (hd : decode cc pc = .ok (.invokevirtual idx, 3)) (hr : rX2_isFull G d [.ref (gad G 3)] S (some (.int v)) S') (hst : (st.map fun v => v.category).sum ≤ 8) (k : AW X G (pc + 3) L (.int v :: st) S') : AW X G pc L (.ref (gad G 3) :: st) S :=
  ac_V hX (As := []) (C := RX2) hd hml ky_X2_isFull im_yX2_isFull se_yX2_isFull hr rfl rfl rfl hst rfl k
theorem ky_X2_setBody : KY yX2_setBody cX2_setBody 6 none 5 := ⟨in_X2, co_yX2_setBody, by decide +kernel, by decide⟩
abbrev rX2_setBody (G : GT) (d : Nat) (av : List Value) (S : St) (r : Option Value) (S' : St) : Prop := Runs G d yX2_setBody cX2_setBody 6 none av S r S'
theorem cv_X2_setBody (hX : XC X G d own cc nL) {a0 a1 a2 a3 a4 : Value} (hml : Cond.methodLink own idx yX2_setBody ∈ gtbl) (hd : decode cc pc = .ok (.invokevirtual idx, 3)) (hr : rX2_setBody G d [.ref (gad G 3), a0, a1, a2, a3, a4] S none S') (hst : (st.map fun v => v.category).sum ≤ 8) (k : AW X G (pc + 3) L (st) S') : AW X G pc L (a4 :: a3 :: a2 :: a1 :: a0 :: .ref (gad G 3) :: st) S :=
  ac_V hX (As := [a0, a1, a2, a3, a4]) (C := RX2) hd hml ky_X2_setBody im_yX2_setBody se_yX2_setBody hr rfl rfl rfl hst rfl k
theorem ky_X2_setPlace : KY yX2_setPlace cX2_setPlace 5 none 4 := ⟨in_X2, co_yX2_setPlace, by decide +kernel, by decide⟩
abbrev rX2_setPlace (G : GT) (d : Nat) (av : List Value) (S : St) (r : Option Value) (S' : St) : Prop := Runs G d yX2_setPlace cX2_setPlace 5 none av S r S'
theorem cv_X2_setPlace (hX : XC X G d own cc nL) {a0 a1 a2 a3 : Value} (hml : Cond.methodLink own idx yX2_setPlace ∈ gtbl) (hd : decode cc pc = .ok (.invokevirtual idx, 3)) (hr : rX2_setPlace G d [.ref (gad G 3), a0, a1, a2, a3] S none S') (hst : (st.map fun v => v.category).sum ≤ 8) (k : AW X G (pc + 3) L (st) S') : AW X G pc L (a3 :: a2 :: a1 :: a0 :: .ref (gad G 3) :: st) S :=
  ac_V hX (As := [a0, a1, a2, a3]) (C := RX2) hd hml ky_X2_setPlace im_yX2_setPlace se_yX2_setPlace hr rfl rfl rfl hst rfl k
theorem ky_X2_add : KY yX2_add cX2_add 1 (some .int) 0 := ⟨in_X2, co_yX2_add, by decide +kernel, by decide⟩
abbrev rX2_add (G : GT) (d : Nat) (av : List Value) (S : St) (r : Option Value) (S' : St) : Prop := Runs G d yX2_add cX2_add 1 (some .int) av S r S'
theorem cv_X2_add (hX : XC X G d own cc nL) {v : Int32} (hml : Cond.methodLink own idx yX2_add ∈ gtbl) (hd : decode cc pc = .ok (.invokevirtual idx, 3)) (hr : rX2_add G d [.ref (gad G 3)] S (some (.int v)) S') (hst : (st.map fun v => v.category).sum ≤ 8) (k : AW X G (pc + 3) L (.int v :: st) S') : AW X G pc L (.ref (gad G 3) :: st) S :=
  ac_V hX (As := []) (C := RX2) hd hml ky_X2_add im_yX2_add se_yX2_add hr rfl rfl rfl hst rfl k
theorem ky_X7_draught : KY yX7_draught cX7_draught 2 (some .int) 1 := ⟨in_X7, co_yX7_draught, by decide +kernel, by decide⟩
abbrev rX7_draught (G : GT) (d : Nat) (av : List Value) (S : St) (r : Option Value) (S' : St) : Prop := Runs G d yX7_draught cX7_draught 2 (some .int) av S r S'
theorem cv_X7_draught (hX : XC X G d own cc nL) {a0 : Value} {v : Int32} (hml : Cond.methodLink own idx yX7_draught ∈ gtbl) (hd : decode cc pc = .ok (.invokevirtual idx, 3)) (hr : rX7_draught G d [.ref (gad G 0), a0] S (some (.int v)) S') (hst : (st.map fun v => v.category).sum ≤ 8) (k : AW X G (pc + 3) L (.int v :: st) S') : AW X G pc L (a0 :: .ref (gad G 0) :: st) S :=
  ac_V hX (As := [a0]) (C := RX7) hd hml ky_X7_draught im_yX7_draught se_yX7_draught hr rfl rfl rfl hst rfl k
theorem ky_X2_has : KY yX2_has cX2_has 2 (some .boolean) 1 := ⟨in_X2, co_yX2_has, by decide +kernel, by decide⟩
abbrev rX2_has (G : GT) (d : Nat) (av : List Value) (S : St) (r : Option Value) (S' : St) : Prop := Runs G d yX2_has cX2_has 2 (some .boolean) av S r S'
theorem cv_X2_has (hX : XC X G d own cc nL) {a0 : Value} {v : Int32} (hml : Cond.methodLink own idx yX2_has ∈ gtbl) (hd : decode cc pc = .ok (.invokevirtual idx, 3)) (hr : rX2_has G d [.ref (gad G 3), a0] S (some (.int v)) S') (hst : (st.map fun v => v.category).sum ≤ 8) (k : AW X G (pc + 3) L (.int v :: st) S') : AW X G pc L (a0 :: .ref (gad G 3) :: st) S :=
  ac_V hX (As := [a0]) (C := RX2) hd hml ky_X2_has im_yX2_has se_yX2_has hr rfl rfl rfl hst rfl k
theorem ky_X7_straightPull : KY yX7_straightPull cX7_straightPull 2 (some .int) 1 := ⟨in_X7, co_yX7_straightPull, by decide +kernel, by decide⟩
abbrev rX7_straightPull (G : GT) (d : Nat) (av : List Value) (S : St) (r : Option Value) (S' : St) : Prop := Runs G d yX7_straightPull cX7_straightPull 2 (some .int) av S r S'
theorem cv_X7_straightPull (hX : XC X G d own cc nL) {a0 : Value} {v : Int32} (hml : Cond.methodLink own idx yX7_straightPull ∈ gtbl) (hd : decode cc pc = .ok (.invokevirtual idx, 3)) (hr : rX7_straightPull G d [.ref (gad G 0), a0] S (some (.int v)) S') (hst : (st.map fun v => v.category).sum ≤ 8) (k : AW X G (pc + 3) L (.int v :: st) S') : AW X G pc L (a0 :: .ref (gad G 0) :: st) S :=
  ac_V hX (As := [a0]) (C := RX7) hd hml ky_X7_straightPull im_yX7_straightPull se_yX7_straightPull hr rfl rfl rfl hst rfl k
theorem ky_X2_openPull : KY yX2_openPull cX2_openPull 3 (some .int) 1 := ⟨in_X2, co_yX2_openPull, by decide +kernel, by decide⟩
abbrev rX2_openPull (G : GT) (d : Nat) (av : List Value) (S : St) (r : Option Value) (S' : St) : Prop := Runs G d yX2_openPull cX2_openPull 3 (some .int) av S r S'
theorem cv_X2_openPull (hX : XC X G d own cc nL) {a0 : Value} {v : Int32} (hml : Cond.methodLink own idx yX2_openPull ∈ gtbl) (hd : decode cc pc = .ok (.invokevirtual idx, 3)) (hr : rX2_openPull G d [.ref (gad G 3), a0] S (some (.int v)) S') (hst : (st.map fun v => v.category).sum ≤ 8) (k : AW X G (pc + 3) L (.int v :: st) S') : AW X G pc L (a0 :: .ref (gad G 3) :: st) S :=
  ac_V hX (As := [a0]) (C := RX2) hd hml ky_X2_openPull im_yX2_openPull se_yX2_openPull hr rfl rfl rfl hst rfl k
theorem ky_X7_bentPull : KY yX7_bentPull cX7_bentPull 2 (some .int) 1 := ⟨in_X7, co_yX7_bentPull, by decide +kernel, by decide⟩
abbrev rX7_bentPull (G : GT) (d : Nat) (av : List Value) (S : St) (r : Option Value) (S' : St) : Prop := Runs G d yX7_bentPull cX7_bentPull 2 (some .int) av S r S'
theorem cv_X7_bentPull (hX : XC X G d own cc nL) {a0 : Value} {v : Int32} (hml : Cond.methodLink own idx yX7_bentPull ∈ gtbl) (hd : decode cc pc = .ok (.invokevirtual idx, 3)) (hr : rX7_bentPull G d [.ref (gad G 0), a0] S (some (.int v)) S') (hst : (st.map fun v => v.category).sum ≤ 8) (k : AW X G (pc + 3) L (.int v :: st) S') : AW X G pc L (a0 :: .ref (gad G 0) :: st) S :=
  ac_V hX (As := [a0]) (C := RX7) hd hml ky_X7_bentPull im_yX7_bentPull se_yX7_bentPull hr rfl rfl rfl hst rfl k
theorem ky_X7_sharedPull : KY yX7_sharedPull cX7_sharedPull 2 (some .int) 1 := ⟨in_X7, co_yX7_sharedPull, by decide +kernel, by decide⟩
abbrev rX7_sharedPull (G : GT) (d : Nat) (av : List Value) (S : St) (r : Option Value) (S' : St) : Prop := Runs G d yX7_sharedPull cX7_sharedPull 2 (some .int) av S r S'
theorem cv_X7_sharedPull (hX : XC X G d own cc nL) {a0 : Value} {v : Int32} (hml : Cond.methodLink own idx yX7_sharedPull ∈ gtbl) (hd : decode cc pc = .ok (.invokevirtual idx, 3)) (hr : rX7_sharedPull G d [.ref (gad G 0), a0] S (some (.int v)) S') (hst : (st.map fun v => v.category).sum ≤ 8) (k : AW X G (pc + 3) L (.int v :: st) S') : AW X G pc L (a0 :: .ref (gad G 0) :: st) S :=
  ac_V hX (As := [a0]) (C := RX7) hd hml ky_X7_sharedPull im_yX7_sharedPull se_yX7_sharedPull hr rfl rfl rfl hst rfl k
theorem ky_X7_about : KY yX7_about cX7_about 3 (some .int) 2 := ⟨in_X7, co_yX7_about, by decide +kernel, by decide⟩
abbrev rX7_about (G : GT) (d : Nat) (av : List Value) (S : St) (r : Option Value) (S' : St) : Prop := Runs G d yX7_about cX7_about 3 (some .int) av S r S'
theorem cv_X7_about (hX : XC X G d own cc nL) {a0 a1 : Value} {v : Int32} (hml : Cond.methodLink own idx yX7_about ∈ gtbl) (hd : decode cc pc = .ok (.invokevirtual idx, 3)) (hr : rX7_about G d [.ref (gad G 0), a0, a1] S (some (.int v)) S') (hst : (st.map fun v => v.category).sum ≤ 8) (k : AW X G (pc + 3) L (.int v :: st) S') : AW X G pc L (a1 :: a0 :: .ref (gad G 0) :: st) S :=
  ac_V hX (As := [a0, a1]) (C := RX7) hd hml ky_X7_about im_yX7_about se_yX7_about hr rfl rfl rfl hst rfl k
theorem ky_X7_sweptBy : KY yX7_sweptBy cX7_sweptBy 4 (some .int) 2 := ⟨in_X7, co_yX7_sweptBy, by decide +kernel, by decide⟩
abbrev rX7_sweptBy (G : GT) (d : Nat) (av : List Value) (S : St) (r : Option Value) (S' : St) : Prop := Runs G d yX7_sweptBy cX7_sweptBy 4 (some .int) av S r S'
theorem cv_X7_sweptBy (hX : XC X G d own cc nL) {a0 a1 : Value} {v : Int32} (hml : Cond.methodLink own idx yX7_sweptBy ∈ gtbl) (hd : decode cc pc = .ok (.invokevirtual idx, 3)) (hr : rX7_sweptBy G d [.ref (gad G 0), a0, a1] S (some (.int v)) S') (hst : (st.map fun v => v.category).sum ≤ 8) (k : AW X G (pc + 3) L (.int v :: st) S') : AW X G pc L (a1 :: a0 :: .ref (gad G 0) :: st) S :=
  ac_V hX (As := [a0, a1]) (C := RX7) hd hml ky_X7_sweptBy im_yX7_sweptBy se_yX7_sweptBy hr rfl rfl rfl hst rfl k
theorem ky_X5_latest : KY yX5_latest cX5_latest 4 (some .int) 2 := ⟨in_X5, co_yX5_latest, by decide +kernel, by decide⟩
abbrev rX5_latest (G : GT) (d : Nat) (av : List Value) (S : St) (r : Option Value) (S' : St) : Prop := Runs G d yX5_latest cX5_latest 4 (some .int) av S r S'
theorem cv_X5_latest (hX : XC X G d own cc nL) {a0 a1 : Value} {v : Int32} (hml : Cond.methodLink own idx yX5_latest ∈ gtbl) (hd : decode cc pc = .ok (.invokevirtual idx, 3)) (hr : rX5_latest G d [.ref (gad G 6), a0, a1] S (some (.int v)) S') (hst : (st.map fun v => v.category).sum ≤ 8) (k : AW X G (pc + 3) L (.int v :: st) S') : AW X G pc L (a1 :: a0 :: .ref (gad G 6) :: st) S :=
  ac_V hX (As := [a0, a1]) (C := RX5) hd hml ky_X5_latest im_yX5_latest se_yX5_latest hr rfl rfl rfl hst rfl k
theorem ky_X7_isForbidden : KY yX7_isForbidden cX7_isForbidden 2 (some .boolean) 1 := ⟨in_X7, co_yX7_isForbidden, by decide +kernel, by decide⟩
abbrev rX7_isForbidden (G : GT) (d : Nat) (av : List Value) (S : St) (r : Option Value) (S' : St) : Prop := Runs G d yX7_isForbidden cX7_isForbidden 2 (some .boolean) av S r S'
theorem cv_X7_isForbidden (hX : XC X G d own cc nL) {a0 : Value} {v : Int32} (hml : Cond.methodLink own idx yX7_isForbidden ∈ gtbl) (hd : decode cc pc = .ok (.invokevirtual idx, 3)) (hr : rX7_isForbidden G d [.ref (gad G 0), a0] S (some (.int v)) S') (hst : (st.map fun v => v.category).sum ≤ 8) (k : AW X G (pc + 3) L (.int v :: st) S') : AW X G pc L (a0 :: .ref (gad G 0) :: st) S :=
  ac_V hX (As := [a0]) (C := RX7) hd hml ky_X7_isForbidden im_yX7_isForbidden se_yX7_isForbidden hr rfl rfl rfl hst rfl k
theorem ky_X4_asKnown : KY yX4_asKnown cX4_asKnown 7 (some .int) 2 := ⟨in_X4, co_yX4_asKnown, by decide +kernel, by decide⟩
abbrev rX4_asKnown (G : GT) (d : Nat) (av : List Value) (S : St) (r : Option Value) (S' : St) : Prop := Runs G d yX4_asKnown cX4_asKnown 7 (some .int) av S r S'
theorem cv_X4_asKnown (hX : XC X G d own cc nL) {a0 a1 : Value} {v : Int32} (hml : Cond.methodLink own idx yX4_asKnown ∈ gtbl) (hd : decode cc pc = .ok (.invokevirtual idx, 3)) (hr : rX4_asKnown G d [.ref (gad G 4), a0, a1] S (some (.int v)) S') (hst : (st.map fun v => v.category).sum ≤ 8) (k : AW X G (pc + 3) L (.int v :: st) S') : AW X G pc L (a1 :: a0 :: .ref (gad G 4) :: st) S :=
  ac_V hX (As := [a0, a1]) (C := RX4) hd hml ky_X4_asKnown im_yX4_asKnown se_yX4_asKnown hr rfl rfl rfl hst rfl k
theorem ky_X7_asNumber : KY yX7_asNumber cX7_asNumber 1 (some .int) 1 := ⟨in_X7, co_yX7_asNumber, by decide +kernel, by decide⟩
abbrev rX7_asNumber (G : GT) (d : Nat) (av : List Value) (S : St) (r : Option Value) (S' : St) : Prop := Runs G d yX7_asNumber cX7_asNumber 1 (some .int) av S r S'
theorem cs_X7_asNumber (hX : XC X G d own cc nL) {a0 : Value} {v : Int32} (hml : Cond.methodLink own idx yX7_asNumber ∈ gtbl) (hd : decode cc pc = .ok (.invokestatic idx, 3)) (hr : rX7_asNumber G d [a0] S (some (.int v)) S') (hst : (st.map fun v => v.category).sum ≤ 8) (k : AW X G (pc + 3) L (.int v :: st) S') : AW X G pc L (a0 :: st) S :=
  ac_S hX (As := [a0]) hd hml ky_X7_asNumber sm_yX7_asNumber hr rfl hst rfl k
theorem ky_X7_doerOf : KY yX7_doerOf cX7_doerOf 4 (some .int) 1 := ⟨in_X7, co_yX7_doerOf, by decide +kernel, by decide⟩
abbrev rX7_doerOf (G : GT) (d : Nat) (av : List Value) (S : St) (r : Option Value) (S' : St) : Prop := Runs G d yX7_doerOf cX7_doerOf 4 (some .int) av S r S'
theorem cv_X7_doerOf (hX : XC X G d own cc nL) {a0 : Value} {v : Int32} (hml : Cond.methodLink own idx yX7_doerOf ∈ gtbl) (hd : decode cc pc = .ok (.invokevirtual idx, 3)) (hr : rX7_doerOf G d [.ref (gad G 0), a0] S (some (.int v)) S') (hst : (st.map fun v => v.category).sum ≤ 8) (k : AW X G (pc + 3) L (.int v :: st) S') : AW X G pc L (a0 :: .ref (gad G 0) :: st) S :=
  ac_V hX (As := [a0]) (C := RX7) hd hml ky_X7_doerOf im_yX7_doerOf se_yX7_doerOf hr rfl rfl rfl hst rfl k
theorem ky_X7_nearestHand : KY yX7_nearestHand cX7_nearestHand 7 (some .int) 1 := ⟨in_X7, co_yX7_nearestHand, by decide +kernel, by decide⟩
abbrev rX7_nearestHand (G : GT) (d : Nat) (av : List Value) (S : St) (r : Option Value) (S' : St) : Prop := Runs G d yX7_nearestHand cX7_nearestHand 7 (some .int) av S r S'
theorem cv_X7_nearestHand (hX : XC X G d own cc nL) {a0 : Value} {v : Int32} (hml : Cond.methodLink own idx yX7_nearestHand ∈ gtbl) (hd : decode cc pc = .ok (.invokevirtual idx, 3)) (hr : rX7_nearestHand G d [.ref (gad G 0), a0] S (some (.int v)) S') (hst : (st.map fun v => v.category).sum ≤ 8) (k : AW X G (pc + 3) L (.int v :: st) S') : AW X G pc L (a0 :: .ref (gad G 0) :: st) S :=
  ac_V hX (As := [a0]) (C := RX7) hd hml ky_X7_nearestHand im_yX7_nearestHand se_yX7_nearestHand hr rfl rfl rfl hst rfl k
theorem ky_X2_wayBetween : KY yX2_wayBetween cX2_wayBetween 3 (some .int) 2 := ⟨in_X2, co_yX2_wayBetween, by decide +kernel, by decide⟩
abbrev rX2_wayBetween (G : GT) (d : Nat) (av : List Value) (S : St) (r : Option Value) (S' : St) : Prop := Runs G d yX2_wayBetween cX2_wayBetween 3 (some .int) av S r S'
theorem cv_X2_wayBetween (hX : XC X G d own cc nL) {a0 a1 : Value} {v : Int32} (hml : Cond.methodLink own idx yX2_wayBetween ∈ gtbl) (hd : decode cc pc = .ok (.invokevirtual idx, 3)) (hr : rX2_wayBetween G d [.ref (gad G 3), a0, a1] S (some (.int v)) S') (hst : (st.map fun v => v.category).sum ≤ 8) (k : AW X G (pc + 3) L (.int v :: st) S') : AW X G pc L (a1 :: a0 :: .ref (gad G 3) :: st) S :=
  ac_V hX (As := [a0, a1]) (C := RX2) hd hml ky_X2_wayBetween im_yX2_wayBetween se_yX2_wayBetween hr rfl rfl rfl hst rfl k
theorem ky_X7_leastHandNotIll : KY yX7_leastHandNotIll cX7_leastHandNotIll 2 (some .int) 0 := ⟨in_X7, co_yX7_leastHandNotIll, by decide +kernel, by decide⟩
abbrev rX7_leastHandNotIll (G : GT) (d : Nat) (av : List Value) (S : St) (r : Option Value) (S' : St) : Prop := Runs G d yX7_leastHandNotIll cX7_leastHandNotIll 2 (some .int) av S r S'
theorem cv_X7_leastHandNotIll (hX : XC X G d own cc nL) {v : Int32} (hml : Cond.methodLink own idx yX7_leastHandNotIll ∈ gtbl) (hd : decode cc pc = .ok (.invokevirtual idx, 3)) (hr : rX7_leastHandNotIll G d [.ref (gad G 0)] S (some (.int v)) S') (hst : (st.map fun v => v.category).sum ≤ 8) (k : AW X G (pc + 3) L (.int v :: st) S') : AW X G pc L (.ref (gad G 0) :: st) S :=
  ac_V hX (As := []) (C := RX7) hd hml ky_X7_leastHandNotIll im_yX7_leastHandNotIll se_yX7_leastHandNotIll hr rfl rfl rfl hst rfl k
theorem ky_X7_due : KY yX7_due cX7_due 2 (some .int) 1 := ⟨in_X7, co_yX7_due, by decide +kernel, by decide⟩
abbrev rX7_due (G : GT) (d : Nat) (av : List Value) (S : St) (r : Option Value) (S' : St) : Prop := Runs G d yX7_due cX7_due 2 (some .int) av S r S'
theorem cv_X7_due (hX : XC X G d own cc nL) {a0 : Value} {v : Int32} (hml : Cond.methodLink own idx yX7_due ∈ gtbl) (hd : decode cc pc = .ok (.invokevirtual idx, 3)) (hr : rX7_due G d [.ref (gad G 0), a0] S (some (.int v)) S') (hst : (st.map fun v => v.category).sum ≤ 8) (k : AW X G (pc + 3) L (.int v :: st) S') : AW X G pc L (a0 :: .ref (gad G 0) :: st) S :=
  ac_V hX (As := [a0]) (C := RX7) hd hml ky_X7_due im_yX7_due se_yX7_due hr rfl rfl rfl hst rfl k
theorem ky_X7_dueOf : KY yX7_dueOf cX7_dueOf 2 (some .int) 1 := ⟨in_X7, co_yX7_dueOf, by decide +kernel, by decide⟩
abbrev rX7_dueOf (G : GT) (d : Nat) (av : List Value) (S : St) (r : Option Value) (S' : St) : Prop := Runs G d yX7_dueOf cX7_dueOf 2 (some .int) av S r S'
theorem cv_X7_dueOf (hX : XC X G d own cc nL) {a0 : Value} {v : Int32} (hml : Cond.methodLink own idx yX7_dueOf ∈ gtbl) (hd : decode cc pc = .ok (.invokevirtual idx, 3)) (hr : rX7_dueOf G d [.ref (gad G 0), a0] S (some (.int v)) S') (hst : (st.map fun v => v.category).sum ≤ 8) (k : AW X G (pc + 3) L (.int v :: st) S') : AW X G pc L (a0 :: .ref (gad G 0) :: st) S :=
  ac_V hX (As := [a0]) (C := RX7) hd hml ky_X7_dueOf im_yX7_dueOf se_yX7_dueOf hr rfl rfl rfl hst rfl k
theorem ky_X3_firstDue : KY yX3_firstDue cX3_firstDue 4 (some .int) 2 := ⟨in_X3, co_yX3_firstDue, by decide +kernel, by decide⟩
abbrev rX3_firstDue (G : GT) (d : Nat) (av : List Value) (S : St) (r : Option Value) (S' : St) : Prop := Runs G d yX3_firstDue cX3_firstDue 4 (some .int) av S r S'
theorem cv_X3_firstDue (hX : XC X G d own cc nL) {a0 a1 : Value} {v : Int32} (hml : Cond.methodLink own idx yX3_firstDue ∈ gtbl) (hd : decode cc pc = .ok (.invokevirtual idx, 3)) (hr : rX3_firstDue G d [.ref (gad G 2), a0, a1] S (some (.int v)) S') (hst : (st.map fun v => v.category).sum ≤ 8) (k : AW X G (pc + 3) L (.int v :: st) S') : AW X G pc L (a1 :: a0 :: .ref (gad G 2) :: st) S :=
  ac_V hX (As := [a0, a1]) (C := RX3) hd hml ky_X3_firstDue im_yX3_firstDue se_yX3_firstDue hr rfl rfl rfl hst rfl k
theorem ky_X7_beyond : KY yX7_beyond cX7_beyond 3 (some .int) 0 := ⟨in_X7, co_yX7_beyond, by decide +kernel, by decide⟩
abbrev rX7_beyond (G : GT) (d : Nat) (av : List Value) (S : St) (r : Option Value) (S' : St) : Prop := Runs G d yX7_beyond cX7_beyond 3 (some .int) av S r S'
theorem cv_X7_beyond (hX : XC X G d own cc nL) {v : Int32} (hml : Cond.methodLink own idx yX7_beyond ∈ gtbl) (hd : decode cc pc = .ok (.invokevirtual idx, 3)) (hr : rX7_beyond G d [.ref (gad G 0)] S (some (.int v)) S') (hst : (st.map fun v => v.category).sum ≤ 8) (k : AW X G (pc + 3) L (.int v :: st) S') : AW X G pc L (.ref (gad G 0) :: st) S :=
  ac_V hX (As := []) (C := RX7) hd hml ky_X7_beyond im_yX7_beyond se_yX7_beyond hr rfl rfl rfl hst rfl k
theorem ky_X7_wasBeyond : KY yX7_wasBeyond cX7_wasBeyond 3 (some .boolean) 2 := ⟨in_X7, co_yX7_wasBeyond, by decide +kernel, by decide⟩
abbrev rX7_wasBeyond (G : GT) (d : Nat) (av : List Value) (S : St) (r : Option Value) (S' : St) : Prop := Runs G d yX7_wasBeyond cX7_wasBeyond 3 (some .boolean) av S r S'
theorem cv_X7_wasBeyond (hX : XC X G d own cc nL) {a0 a1 : Value} {v : Int32} (hml : Cond.methodLink own idx yX7_wasBeyond ∈ gtbl) (hd : decode cc pc = .ok (.invokevirtual idx, 3)) (hr : rX7_wasBeyond G d [.ref (gad G 0), a0, a1] S (some (.int v)) S') (hst : (st.map fun v => v.category).sum ≤ 8) (k : AW X G (pc + 3) L (.int v :: st) S') : AW X G pc L (a1 :: a0 :: .ref (gad G 0) :: st) S :=
  ac_V hX (As := [a0, a1]) (C := RX7) hd hml ky_X7_wasBeyond im_yX7_wasBeyond se_yX7_wasBeyond hr rfl rfl rfl hst rfl k
theorem ky_X7_sweep : KY yX7_sweep cX7_sweep 4 (some .int) 1 := ⟨in_X7, co_yX7_sweep, by decide +kernel, by decide⟩
abbrev rX7_sweep (G : GT) (d : Nat) (av : List Value) (S : St) (r : Option Value) (S' : St) : Prop := Runs G d yX7_sweep cX7_sweep 4 (some .int) av S r S'
theorem cv_X7_sweep (hX : XC X G d own cc nL) {a0 : Value} {v : Int32} (hml : Cond.methodLink own idx yX7_sweep ∈ gtbl) (hd : decode cc pc = .ok (.invokevirtual idx, 3)) (hr : rX7_sweep G d [.ref (gad G 0), a0] S (some (.int v)) S') (hst : (st.map fun v => v.category).sum ≤ 8) (k : AW X G (pc + 3) L (.int v :: st) S') : AW X G pc L (a0 :: .ref (gad G 0) :: st) S :=
  ac_V hX (As := [a0]) (C := RX7) hd hml ky_X7_sweep im_yX7_sweep se_yX7_sweep hr rfl rfl rfl hst rfl k
theorem ky_X5_isFull : KY yX5_isFull cX5_isFull 1 (some .boolean) 0 := ⟨in_X5, co_yX5_isFull, by decide +kernel, by decide⟩
abbrev rX5_isFull (G : GT) (d : Nat) (av : List Value) (S : St) (r : Option Value) (S' : St) : Prop := Runs G d yX5_isFull cX5_isFull 1 (some .boolean) av S r S'
theorem cv_X5_isFull (hX : XC X G d own cc nL) {v : Int32} (hml : Cond.methodLink own idx yX5_isFull ∈ gtbl) (hd : decode cc pc = .ok (.invokevirtual idx, 3)) (hr : rX5_isFull G d [.ref (gad G 6)] S (some (.int v)) S') (hst : (st.map fun v => v.category).sum ≤ 8) (k : AW X G (pc + 3) L (.int v :: st) S') : AW X G pc L (.ref (gad G 6) :: st) S :=
  ac_V hX (As := []) (C := RX5) hd hml ky_X5_isFull im_yX5_isFull se_yX5_isFull hr rfl rfl rfl hst rfl k
theorem ky_X5_add : KY yX5_add cX5_add 5 none 4 := ⟨in_X5, co_yX5_add, by decide +kernel, by decide⟩
abbrev rX5_add (G : GT) (d : Nat) (av : List Value) (S : St) (r : Option Value) (S' : St) : Prop := Runs G d yX5_add cX5_add 5 none av S r S'
theorem cv_X5_add (hX : XC X G d own cc nL) {a0 a1 a2 a3 : Value} (hml : Cond.methodLink own idx yX5_add ∈ gtbl) (hd : decode cc pc = .ok (.invokevirtual idx, 3)) (hr : rX5_add G d [.ref (gad G 6), a0, a1, a2, a3] S none S') (hst : (st.map fun v => v.category).sum ≤ 8) (k : AW X G (pc + 3) L (st) S') : AW X G pc L (a3 :: a2 :: a1 :: a0 :: .ref (gad G 6) :: st) S :=
  ac_V hX (As := [a0, a1, a2, a3]) (C := RX5) hd hml ky_X5_add im_yX5_add se_yX5_add hr rfl rfl rfl hst rfl k
theorem ky_X7_refuse : KY yX7_refuse cX7_refuse 2 (some .int) 1 := ⟨in_X7, co_yX7_refuse, by decide +kernel, by decide⟩
abbrev rX7_refuse (G : GT) (d : Nat) (av : List Value) (S : St) (r : Option Value) (S' : St) : Prop := Runs G d yX7_refuse cX7_refuse 2 (some .int) av S r S'
theorem cv_X7_refuse (hX : XC X G d own cc nL) {a0 : Value} {v : Int32} (hml : Cond.methodLink own idx yX7_refuse ∈ gtbl) (hd : decode cc pc = .ok (.invokevirtual idx, 3)) (hr : rX7_refuse G d [.ref (gad G 0), a0] S (some (.int v)) S') (hst : (st.map fun v => v.category).sum ≤ 8) (k : AW X G (pc + 3) L (.int v :: st) S') : AW X G pc L (a0 :: .ref (gad G 0) :: st) S :=
  ac_V hX (As := [a0]) (C := RX7) hd hml ky_X7_refuse im_yX7_refuse se_yX7_refuse hr rfl rfl rfl hst rfl k
theorem ky_X7_look : KY yX7_look cX7_look 4 (some .int) 3 := ⟨in_X7, co_yX7_look, by decide +kernel, by decide⟩
abbrev rX7_look (G : GT) (d : Nat) (av : List Value) (S : St) (r : Option Value) (S' : St) : Prop := Runs G d yX7_look cX7_look 4 (some .int) av S r S'
theorem cv_X7_look (hX : XC X G d own cc nL) {a0 a1 a2 : Value} {v : Int32} (hml : Cond.methodLink own idx yX7_look ∈ gtbl) (hd : decode cc pc = .ok (.invokevirtual idx, 3)) (hr : rX7_look G d [.ref (gad G 0), a0, a1, a2] S (some (.int v)) S') (hst : (st.map fun v => v.category).sum ≤ 8) (k : AW X G (pc + 3) L (.int v :: st) S') : AW X G pc L (a2 :: a1 :: a0 :: .ref (gad G 0) :: st) S :=
  ac_V hX (As := [a0, a1, a2]) (C := RX7) hd hml ky_X7_look im_yX7_look se_yX7_look hr rfl rfl rfl hst rfl k
theorem ky_X4_isFull : KY yX4_isFull cX4_isFull 1 (some .boolean) 0 := ⟨in_X4, co_yX4_isFull, by decide +kernel, by decide⟩
abbrev rX4_isFull (G : GT) (d : Nat) (av : List Value) (S : St) (r : Option Value) (S' : St) : Prop := Runs G d yX4_isFull cX4_isFull 1 (some .boolean) av S r S'
theorem cv_X4_isFull (hX : XC X G d own cc nL) {v : Int32} (hml : Cond.methodLink own idx yX4_isFull ∈ gtbl) (hd : decode cc pc = .ok (.invokevirtual idx, 3)) (hr : rX4_isFull G d [.ref (gad G 4)] S (some (.int v)) S') (hst : (st.map fun v => v.category).sum ≤ 8) (k : AW X G (pc + 3) L (.int v :: st) S') : AW X G pc L (.ref (gad G 4) :: st) S :=
  ac_V hX (As := []) (C := RX4) hd hml ky_X4_isFull im_yX4_isFull se_yX4_isFull hr rfl rfl rfl hst rfl k
theorem ky_X4_add : KY yX4_add cX4_add 5 (some .int) 4 := ⟨in_X4, co_yX4_add, by decide +kernel, by decide⟩
abbrev rX4_add (G : GT) (d : Nat) (av : List Value) (S : St) (r : Option Value) (S' : St) : Prop := Runs G d yX4_add cX4_add 5 (some .int) av S r S'
theorem cv_X4_add (hX : XC X G d own cc nL) {a0 a1 a2 a3 : Value} {v : Int32} (hml : Cond.methodLink own idx yX4_add ∈ gtbl) (hd : decode cc pc = .ok (.invokevirtual idx, 3)) (hr : rX4_add G d [.ref (gad G 4), a0, a1, a2, a3] S (some (.int v)) S') (hst : (st.map fun v => v.category).sum ≤ 8) (k : AW X G (pc + 3) L (.int v :: st) S') : AW X G pc L (a3 :: a2 :: a1 :: a0 :: .ref (gad G 4) :: st) S :=
  ac_V hX (As := [a0, a1, a2, a3]) (C := RX4) hd hml ky_X4_add im_yX4_add se_yX4_add hr rfl rfl rfl hst rfl k
theorem ky_X7_known : KY yX7_known cX7_known 3 (some .int) 2 := ⟨in_X7, co_yX7_known, by decide +kernel, by decide⟩
abbrev rX7_known (G : GT) (d : Nat) (av : List Value) (S : St) (r : Option Value) (S' : St) : Prop := Runs G d yX7_known cX7_known 3 (some .int) av S r S'
theorem cv_X7_known (hX : XC X G d own cc nL) {a0 a1 : Value} {v : Int32} (hml : Cond.methodLink own idx yX7_known ∈ gtbl) (hd : decode cc pc = .ok (.invokevirtual idx, 3)) (hr : rX7_known G d [.ref (gad G 0), a0, a1] S (some (.int v)) S') (hst : (st.map fun v => v.category).sum ≤ 8) (k : AW X G (pc + 3) L (.int v :: st) S') : AW X G pc L (a1 :: a0 :: .ref (gad G 0) :: st) S :=
  ac_V hX (As := [a0, a1]) (C := RX7) hd hml ky_X7_known im_yX7_known se_yX7_known hr rfl rfl rfl hst rfl k
theorem ky_X7_fire : KY yX7_fire cX7_fire 3 (some .int) 2 := ⟨in_X7, co_yX7_fire, by decide +kernel, by decide⟩
abbrev rX7_fire (G : GT) (d : Nat) (av : List Value) (S : St) (r : Option Value) (S' : St) : Prop := Runs G d yX7_fire cX7_fire 3 (some .int) av S r S'
theorem cv_X7_fire (hX : XC X G d own cc nL) {a0 a1 : Value} {v : Int32} (hml : Cond.methodLink own idx yX7_fire ∈ gtbl) (hd : decode cc pc = .ok (.invokevirtual idx, 3)) (hr : rX7_fire G d [.ref (gad G 0), a0, a1] S (some (.int v)) S') (hst : (st.map fun v => v.category).sum ≤ 8) (k : AW X G (pc + 3) L (.int v :: st) S') : AW X G pc L (a1 :: a0 :: .ref (gad G 0) :: st) S :=
  ac_V hX (As := [a0, a1]) (C := RX7) hd hml ky_X7_fire im_yX7_fire se_yX7_fire hr rfl rfl rfl hst rfl k
theorem ky_X1_isFull : KY yX1_isFull cX1_isFull 1 (some .boolean) 0 := ⟨in_X1, co_yX1_isFull, by decide +kernel, by decide⟩
abbrev rX1_isFull (G : GT) (d : Nat) (av : List Value) (S : St) (r : Option Value) (S' : St) : Prop := Runs G d yX1_isFull cX1_isFull 1 (some .boolean) av S r S'
theorem cv_X1_isFull (hX : XC X G d own cc nL) {v : Int32} (hml : Cond.methodLink own idx yX1_isFull ∈ gtbl) (hd : decode cc pc = .ok (.invokevirtual idx, 3)) (hr : rX1_isFull G d [.ref (gad G 5)] S (some (.int v)) S') (hst : (st.map fun v => v.category).sum ≤ 8) (k : AW X G (pc + 3) L (.int v :: st) S') : AW X G pc L (.ref (gad G 5) :: st) S :=
  ac_V hX (As := []) (C := RX1) hd hml ky_X1_isFull im_yX1_isFull se_yX1_isFull hr rfl rfl rfl hst rfl k
theorem ky_X1_add : KY yX1_add cX1_add 3 (some .int) 2 := ⟨in_X1, co_yX1_add, by decide +kernel, by decide⟩
abbrev rX1_add (G : GT) (d : Nat) (av : List Value) (S : St) (r : Option Value) (S' : St) : Prop := Runs G d yX1_add cX1_add 3 (some .int) av S r S'
theorem cv_X1_add (hX : XC X G d own cc nL) {a0 a1 : Value} {v : Int32} (hml : Cond.methodLink own idx yX1_add ∈ gtbl) (hd : decode cc pc = .ok (.invokevirtual idx, 3)) (hr : rX1_add G d [.ref (gad G 5), a0, a1] S (some (.int v)) S') (hst : (st.map fun v => v.category).sum ≤ 8) (k : AW X G (pc + 3) L (.int v :: st) S') : AW X G pc L (a1 :: a0 :: .ref (gad G 5) :: st) S :=
  ac_V hX (As := [a0, a1]) (C := RX1) hd hml ky_X1_add im_yX1_add se_yX1_add hr rfl rfl rfl hst rfl k
theorem ky_X7_back : KY yX7_back cX7_back 5 (some .int) 2 := ⟨in_X7, co_yX7_back, by decide +kernel, by decide⟩
abbrev rX7_back (G : GT) (d : Nat) (av : List Value) (S : St) (r : Option Value) (S' : St) : Prop := Runs G d yX7_back cX7_back 5 (some .int) av S r S'
theorem cv_X7_back (hX : XC X G d own cc nL) {a0 a1 : Value} {v : Int32} (hml : Cond.methodLink own idx yX7_back ∈ gtbl) (hd : decode cc pc = .ok (.invokevirtual idx, 3)) (hr : rX7_back G d [.ref (gad G 0), a0, a1] S (some (.int v)) S') (hst : (st.map fun v => v.category).sum ≤ 8) (k : AW X G (pc + 3) L (.int v :: st) S') : AW X G pc L (a1 :: a0 :: .ref (gad G 0) :: st) S :=
  ac_V hX (As := [a0, a1]) (C := RX7) hd hml ky_X7_back im_yX7_back se_yX7_back hr rfl rfl rfl hst rfl k
theorem ky_X1_has : KY yX1_has cX1_has 2 (some .boolean) 1 := ⟨in_X1, co_yX1_has, by decide +kernel, by decide⟩
abbrev rX1_has (G : GT) (d : Nat) (av : List Value) (S : St) (r : Option Value) (S' : St) : Prop := Runs G d yX1_has cX1_has 2 (some .boolean) av S r S'
theorem cv_X1_has (hX : XC X G d own cc nL) {a0 : Value} {v : Int32} (hml : Cond.methodLink own idx yX1_has ∈ gtbl) (hd : decode cc pc = .ok (.invokevirtual idx, 3)) (hr : rX1_has G d [.ref (gad G 5), a0] S (some (.int v)) S') (hst : (st.map fun v => v.category).sum ≤ 8) (k : AW X G (pc + 3) L (.int v :: st) S') : AW X G pc L (a0 :: .ref (gad G 5) :: st) S :=
  ac_V hX (As := [a0]) (C := RX1) hd hml ky_X1_has im_yX1_has se_yX1_has hr rfl rfl rfl hst rfl k
theorem ky_X7_sweeperBy : KY yX7_sweeperBy cX7_sweeperBy 4 (some .int) 2 := ⟨in_X7, co_yX7_sweeperBy, by decide +kernel, by decide⟩
abbrev rX7_sweeperBy (G : GT) (d : Nat) (av : List Value) (S : St) (r : Option Value) (S' : St) : Prop := Runs G d yX7_sweeperBy cX7_sweeperBy 4 (some .int) av S r S'
theorem cv_X7_sweeperBy (hX : XC X G d own cc nL) {a0 a1 : Value} {v : Int32} (hml : Cond.methodLink own idx yX7_sweeperBy ∈ gtbl) (hd : decode cc pc = .ok (.invokevirtual idx, 3)) (hr : rX7_sweeperBy G d [.ref (gad G 0), a0, a1] S (some (.int v)) S') (hst : (st.map fun v => v.category).sum ≤ 8) (k : AW X G (pc + 3) L (.int v :: st) S') : AW X G pc L (a1 :: a0 :: .ref (gad G 0) :: st) S :=
  ac_V hX (As := [a0, a1]) (C := RX7) hd hml ky_X7_sweeperBy im_yX7_sweeperBy se_yX7_sweeperBy hr rfl rfl rfl hst rfl k
theorem ky_X7_rate : KY yX7_rate cX7_rate 3 (some .int) 1 := ⟨in_X7, co_yX7_rate, by decide +kernel, by decide⟩
abbrev rX7_rate (G : GT) (d : Nat) (av : List Value) (S : St) (r : Option Value) (S' : St) : Prop := Runs G d yX7_rate cX7_rate 3 (some .int) av S r S'
theorem cv_X7_rate (hX : XC X G d own cc nL) {a0 : Value} {v : Int32} (hml : Cond.methodLink own idx yX7_rate ∈ gtbl) (hd : decode cc pc = .ok (.invokevirtual idx, 3)) (hr : rX7_rate G d [.ref (gad G 0), a0] S (some (.int v)) S') (hst : (st.map fun v => v.category).sum ≤ 8) (k : AW X G (pc + 3) L (.int v :: st) S') : AW X G pc L (a0 :: .ref (gad G 0) :: st) S :=
  ac_V hX (As := [a0]) (C := RX7) hd hml ky_X7_rate im_yX7_rate se_yX7_rate hr rfl rfl rfl hst rfl k
theorem ky_X7_ill : KY yX7_ill cX7_ill 4 (some .int) 2 := ⟨in_X7, co_yX7_ill, by decide +kernel, by decide⟩
abbrev rX7_ill (G : GT) (d : Nat) (av : List Value) (S : St) (r : Option Value) (S' : St) : Prop := Runs G d yX7_ill cX7_ill 4 (some .int) av S r S'
theorem cv_X7_ill (hX : XC X G d own cc nL) {a0 a1 : Value} {v : Int32} (hml : Cond.methodLink own idx yX7_ill ∈ gtbl) (hd : decode cc pc = .ok (.invokevirtual idx, 3)) (hr : rX7_ill G d [.ref (gad G 0), a0, a1] S (some (.int v)) S') (hst : (st.map fun v => v.category).sum ≤ 8) (k : AW X G (pc + 3) L (.int v :: st) S') : AW X G pc L (a1 :: a0 :: .ref (gad G 0) :: st) S :=
  ac_V hX (As := [a0, a1]) (C := RX7) hd hml ky_X7_ill im_yX7_ill se_yX7_ill hr rfl rfl rfl hst rfl k
theorem ky_X7_fees : KY yX7_fees cX7_fees 3 (some .int) 2 := ⟨in_X7, co_yX7_fees, by decide +kernel, by decide⟩
abbrev rX7_fees (G : GT) (d : Nat) (av : List Value) (S : St) (r : Option Value) (S' : St) : Prop := Runs G d yX7_fees cX7_fees 3 (some .int) av S r S'
theorem cv_X7_fees (hX : XC X G d own cc nL) {a0 a1 : Value} {v : Int32} (hml : Cond.methodLink own idx yX7_fees ∈ gtbl) (hd : decode cc pc = .ok (.invokevirtual idx, 3)) (hr : rX7_fees G d [.ref (gad G 0), a0, a1] S (some (.int v)) S') (hst : (st.map fun v => v.category).sum ≤ 8) (k : AW X G (pc + 3) L (.int v :: st) S') : AW X G pc L (a1 :: a0 :: .ref (gad G 0) :: st) S :=
  ac_V hX (As := [a0, a1]) (C := RX7) hd hml ky_X7_fees im_yX7_fees se_yX7_fees hr rfl rfl rfl hst rfl k
theorem ky_X5_earnedBy : KY yX5_earnedBy cX5_earnedBy 4 (some .int) 1 := ⟨in_X5, co_yX5_earnedBy, by decide +kernel, by decide⟩
abbrev rX5_earnedBy (G : GT) (d : Nat) (av : List Value) (S : St) (r : Option Value) (S' : St) : Prop := Runs G d yX5_earnedBy cX5_earnedBy 4 (some .int) av S r S'
theorem cv_X5_earnedBy (hX : XC X G d own cc nL) {a0 : Value} {v : Int32} (hml : Cond.methodLink own idx yX5_earnedBy ∈ gtbl) (hd : decode cc pc = .ok (.invokevirtual idx, 3)) (hr : rX5_earnedBy G d [.ref (gad G 6), a0] S (some (.int v)) S') (hst : (st.map fun v => v.category).sum ≤ 8) (k : AW X G (pc + 3) L (.int v :: st) S') : AW X G pc L (a0 :: .ref (gad G 6) :: st) S :=
  ac_V hX (As := [a0]) (C := RX5) hd hml ky_X5_earnedBy im_yX5_earnedBy se_yX5_earnedBy hr rfl rfl rfl hst rfl k
theorem ky_X5_doneBy : KY yX5_doneBy cX5_doneBy 4 (some .int) 1 := ⟨in_X5, co_yX5_doneBy, by decide +kernel, by decide⟩
abbrev rX5_doneBy (G : GT) (d : Nat) (av : List Value) (S : St) (r : Option Value) (S' : St) : Prop := Runs G d yX5_doneBy cX5_doneBy 4 (some .int) av S r S'
theorem cv_X5_doneBy (hX : XC X G d own cc nL) {a0 : Value} {v : Int32} (hml : Cond.methodLink own idx yX5_doneBy ∈ gtbl) (hd : decode cc pc = .ok (.invokevirtual idx, 3)) (hr : rX5_doneBy G d [.ref (gad G 6), a0] S (some (.int v)) S') (hst : (st.map fun v => v.category).sum ≤ 8) (k : AW X G (pc + 3) L (.int v :: st) S') : AW X G pc L (a0 :: .ref (gad G 6) :: st) S :=
  ac_V hX (As := [a0]) (C := RX5) hd hml ky_X5_doneBy im_yX5_doneBy se_yX5_doneBy hr rfl rfl rfl hst rfl k
theorem ky_X7_round : KY yX7_round cX7_round 5 (some .int) 3 := ⟨in_X7, co_yX7_round, by decide +kernel, by decide⟩
abbrev rX7_round (G : GT) (d : Nat) (av : List Value) (S : St) (r : Option Value) (S' : St) : Prop := Runs G d yX7_round cX7_round 5 (some .int) av S r S'
theorem cv_X7_round (hX : XC X G d own cc nL) {a0 a1 a2 : Value} {v : Int32} (hml : Cond.methodLink own idx yX7_round ∈ gtbl) (hd : decode cc pc = .ok (.invokevirtual idx, 3)) (hr : rX7_round G d [.ref (gad G 0), a0, a1, a2] S (some (.int v)) S') (hst : (st.map fun v => v.category).sum ≤ 8) (k : AW X G (pc + 3) L (.int v :: st) S') : AW X G pc L (a2 :: a1 :: a0 :: .ref (gad G 0) :: st) S :=
  ac_V hX (As := [a0, a1, a2]) (C := RX7) hd hml ky_X7_round im_yX7_round se_yX7_round hr rfl rfl rfl hst rfl k
theorem ky_X7_waitingSince : KY yX7_waitingSince cX7_waitingSince 5 (some .int) 3 := ⟨in_X7, co_yX7_waitingSince, by decide +kernel, by decide⟩
abbrev rX7_waitingSince (G : GT) (d : Nat) (av : List Value) (S : St) (r : Option Value) (S' : St) : Prop := Runs G d yX7_waitingSince cX7_waitingSince 5 (some .int) av S r S'
theorem cv_X7_waitingSince (hX : XC X G d own cc nL) {a0 a1 a2 : Value} {v : Int32} (hml : Cond.methodLink own idx yX7_waitingSince ∈ gtbl) (hd : decode cc pc = .ok (.invokevirtual idx, 3)) (hr : rX7_waitingSince G d [.ref (gad G 0), a0, a1, a2] S (some (.int v)) S') (hst : (st.map fun v => v.category).sum ≤ 8) (k : AW X G (pc + 3) L (.int v :: st) S') : AW X G pc L (a2 :: a1 :: a0 :: .ref (gad G 0) :: st) S :=
  ac_V hX (As := [a0, a1, a2]) (C := RX7) hd hml ky_X7_waitingSince im_yX7_waitingSince se_yX7_waitingSince hr rfl rfl rfl hst rfl k
theorem ky_X6_restart : KY yX6_restart cX6_restart 1 none 0 := ⟨in_X6, co_yX6_restart, by decide +kernel, by decide⟩
abbrev rX6_restart (G : GT) (d : Nat) (av : List Value) (S : St) (r : Option Value) (S' : St) : Prop := Runs G d yX6_restart cX6_restart 1 none av S r S'
theorem cv_X6_restart (hX : XC X G d own cc nL) (hml : Cond.methodLink own idx yX6_restart ∈ gtbl) (hd : decode cc pc = .ok (.invokevirtual idx, 3)) (hr : rX6_restart G d [.ref (gad G 7)] S none S') (hst : (st.map fun v => v.category).sum ≤ 8) (k : AW X G (pc + 3) L (st) S') : AW X G pc L (.ref (gad G 7) :: st) S :=
  ac_V hX (As := []) (C := RX6) hd hml ky_X6_restart im_yX6_restart se_yX6_restart hr rfl rfl rfl hst rfl k
theorem ky_X2_waitingAheadOf : KY yX2_waitingAheadOf cX2_waitingAheadOf 5 (some .int) 1 := ⟨in_X2, co_yX2_waitingAheadOf, by decide +kernel, by decide⟩
abbrev rX2_waitingAheadOf (G : GT) (d : Nat) (av : List Value) (S : St) (r : Option Value) (S' : St) : Prop := Runs G d yX2_waitingAheadOf cX2_waitingAheadOf 5 (some .int) av S r S'
theorem cv_X2_waitingAheadOf (hX : XC X G d own cc nL) {a0 : Value} {v : Int32} (hml : Cond.methodLink own idx yX2_waitingAheadOf ∈ gtbl) (hd : decode cc pc = .ok (.invokevirtual idx, 3)) (hr : rX2_waitingAheadOf G d [.ref (gad G 3), a0] S (some (.int v)) S') (hst : (st.map fun v => v.category).sum ≤ 8) (k : AW X G (pc + 3) L (.int v :: st) S') : AW X G pc L (a0 :: .ref (gad G 3) :: st) S :=
  ac_V hX (As := [a0]) (C := RX2) hd hml ky_X2_waitingAheadOf im_yX2_waitingAheadOf se_yX2_waitingAheadOf hr rfl rfl rfl hst rfl k
theorem ky_X6_addStop : KY yX6_addStop cX6_addStop 4 none 3 := ⟨in_X6, co_yX6_addStop, by decide +kernel, by decide⟩
abbrev rX6_addStop (G : GT) (d : Nat) (av : List Value) (S : St) (r : Option Value) (S' : St) : Prop := Runs G d yX6_addStop cX6_addStop 4 none av S r S'
theorem cv_X6_addStop (hX : XC X G d own cc nL) {a0 a1 a2 : Value} (hml : Cond.methodLink own idx yX6_addStop ∈ gtbl) (hd : decode cc pc = .ok (.invokevirtual idx, 3)) (hr : rX6_addStop G d [.ref (gad G 7), a0, a1, a2] S none S') (hst : (st.map fun v => v.category).sum ≤ 8) (k : AW X G (pc + 3) L (st) S') : AW X G pc L (a2 :: a1 :: a0 :: .ref (gad G 7) :: st) S :=
  ac_V hX (As := [a0, a1, a2]) (C := RX6) hd hml ky_X6_addStop im_yX6_addStop se_yX6_addStop hr rfl rfl rfl hst rfl k
theorem ky_X6_findLeastWay : KY yX6_findLeastWay cX6_findLeastWay 1 none 0 := ⟨in_X6, co_yX6_findLeastWay, by decide +kernel, by decide⟩
abbrev rX6_findLeastWay (G : GT) (d : Nat) (av : List Value) (S : St) (r : Option Value) (S' : St) : Prop := Runs G d yX6_findLeastWay cX6_findLeastWay 1 none av S r S'
theorem cv_X6_findLeastWay (hX : XC X G d own cc nL) (hml : Cond.methodLink own idx yX6_findLeastWay ∈ gtbl) (hd : decode cc pc = .ok (.invokevirtual idx, 3)) (hr : rX6_findLeastWay G d [.ref (gad G 7)] S none S') (hst : (st.map fun v => v.category).sum ≤ 8) (k : AW X G (pc + 3) L (st) S') : AW X G pc L (.ref (gad G 7) :: st) S :=
  ac_V hX (As := []) (C := RX6) hd hml ky_X6_findLeastWay im_yX6_findLeastWay se_yX6_findLeastWay hr rfl rfl rfl hst rfl k
theorem ky_X6_extend : KY yX6_extend cX6_extend 8 none 5 := ⟨in_X6, co_yX6_extend, by decide +kernel, by decide⟩
abbrev rX6_extend (G : GT) (d : Nat) (av : List Value) (S : St) (r : Option Value) (S' : St) : Prop := Runs G d yX6_extend cX6_extend 8 none av S r S'
theorem cs_X6_extend (hX : XC X G d own cc nL) {a0 a1 a2 a3 a4 : Value} (hml : Cond.methodLink own idx yX6_extend ∈ gtbl) (hd : decode cc pc = .ok (.invokestatic idx, 3)) (hr : rX6_extend G d [a0, a1, a2, a3, a4] S none S') (hst : (st.map fun v => v.category).sum ≤ 8) (k : AW X G (pc + 3) L (st) S') : AW X G pc L (a4 :: a3 :: a2 :: a1 :: a0 :: st) S :=
  ac_S hX (As := [a0, a1, a2, a3, a4]) hd hml ky_X6_extend sm_yX6_extend hr rfl hst rfl k
theorem ky_X6_keepTried : KY yX6_keepTried cX6_keepTried 3 none 1 := ⟨in_X6, co_yX6_keepTried, by decide +kernel, by decide⟩
abbrev rX6_keepTried (G : GT) (d : Nat) (av : List Value) (S : St) (r : Option Value) (S' : St) : Prop := Runs G d yX6_keepTried cX6_keepTried 3 none av S r S'
theorem cv_X6_keepTried (hX : XC X G d own cc nL) {a0 : Value} (hml : Cond.methodLink own idx yX6_keepTried ∈ gtbl) (hd : decode cc pc = .ok (.invokevirtual idx, 3)) (hr : rX6_keepTried G d [.ref (gad G 7), a0] S none S') (hst : (st.map fun v => v.category).sum ≤ 8) (k : AW X G (pc + 3) L (st) S') : AW X G pc L (a0 :: .ref (gad G 7) :: st) S :=
  ac_V hX (As := [a0]) (C := RX6) hd hml ky_X6_keepTried im_yX6_keepTried se_yX6_keepTried hr rfl rfl rfl hst rfl k
theorem ky_X7_at : KY yX7_at cX7_at 2 (some .int) 1 := ⟨in_X7, co_yX7_at, by decide +kernel, by decide⟩
abbrev rX7_at (G : GT) (d : Nat) (av : List Value) (S : St) (r : Option Value) (S' : St) : Prop := Runs G d yX7_at cX7_at 2 (some .int) av S r S'
theorem cv_X7_at (hX : XC X G d own cc nL) {a0 : Value} {v : Int32} (hml : Cond.methodLink own idx yX7_at ∈ gtbl) (hd : decode cc pc = .ok (.invokevirtual idx, 3)) (hr : rX7_at G d [.ref (gad G 0), a0] S (some (.int v)) S') (hst : (st.map fun v => v.category).sum ≤ 8) (k : AW X G (pc + 3) L (.int v :: st) S') : AW X G pc L (a0 :: .ref (gad G 0) :: st) S :=
  ac_V hX (As := [a0]) (C := RX7) hd hml ky_X7_at im_yX7_at se_yX7_at hr rfl rfl rfl hst rfl k
theorem ky_X6_flueAt : KY yX6_flueAt cX6_flueAt 2 (some .int) 1 := ⟨in_X6, co_yX6_flueAt, by decide +kernel, by decide⟩
abbrev rX6_flueAt (G : GT) (d : Nat) (av : List Value) (S : St) (r : Option Value) (S' : St) : Prop := Runs G d yX6_flueAt cX6_flueAt 2 (some .int) av S r S'
theorem cv_X6_flueAt (hX : XC X G d own cc nL) {a0 : Value} {v : Int32} (hml : Cond.methodLink own idx yX6_flueAt ∈ gtbl) (hd : decode cc pc = .ok (.invokevirtual idx, 3)) (hr : rX6_flueAt G d [.ref (gad G 7), a0] S (some (.int v)) S') (hst : (st.map fun v => v.category).sum ≤ 8) (k : AW X G (pc + 3) L (.int v :: st) S') : AW X G pc L (a0 :: .ref (gad G 7) :: st) S :=
  ac_V hX (As := [a0]) (C := RX6) hd hml ky_X6_flueAt im_yX6_flueAt se_yX6_flueAt hr rfl rfl rfl hst rfl k
theorem ky_X7_count : KY yX7_count cX7_count 2 (some .int) 1 := ⟨in_X7, co_yX7_count, by decide +kernel, by decide⟩
abbrev rX7_count (G : GT) (d : Nat) (av : List Value) (S : St) (r : Option Value) (S' : St) : Prop := Runs G d yX7_count cX7_count 2 (some .int) av S r S'
theorem cv_X7_count (hX : XC X G d own cc nL) {a0 : Value} {v : Int32} (hml : Cond.methodLink own idx yX7_count ∈ gtbl) (hd : decode cc pc = .ok (.invokevirtual idx, 3)) (hr : rX7_count G d [.ref (gad G 0), a0] S (some (.int v)) S') (hst : (st.map fun v => v.category).sum ≤ 8) (k : AW X G (pc + 3) L (.int v :: st) S') : AW X G pc L (a0 :: .ref (gad G 0) :: st) S :=
  ac_V hX (As := [a0]) (C := RX7) hd hml ky_X7_count im_yX7_count se_yX7_count hr rfl rfl rfl hst rfl k
theorem ky_X7_trace : KY yX7_trace cX7_trace 1 (some .long) 0 := ⟨in_X7, co_yX7_trace, by decide +kernel, by decide⟩
abbrev rX7_trace (G : GT) (d : Nat) (av : List Value) (S : St) (r : Option Value) (S' : St) : Prop := Runs G d yX7_trace cX7_trace 1 (some .long) av S r S'
theorem cv_X7_trace (hX : XC X G d own cc nL) {v : Int64} (hml : Cond.methodLink own idx yX7_trace ∈ gtbl) (hd : decode cc pc = .ok (.invokevirtual idx, 3)) (hr : rX7_trace G d [.ref (gad G 0)] S (some (.long v)) S') (hst : (st.map fun v => v.category).sum ≤ 8) (k : AW X G (pc + 3) L (.long v :: st) S') : AW X G pc L (.ref (gad G 0) :: st) S :=
  ac_V hX (As := []) (C := RX7) hd hml ky_X7_trace im_yX7_trace se_yX7_trace hr rfl rfl rfl hst rfl k
theorem ky_X8_type : KY yX8_type cX8_type 5 (some .int) 2 := ⟨in_X8, co_yX8_type, by decide +kernel, by decide⟩
abbrev rX8_type (G : GT) (d : Nat) (av : List Value) (S : St) (r : Option Value) (S' : St) : Prop := Runs G d yX8_type cX8_type 5 (some .int) av S r S'
theorem cv_X8_type (hX : XC X G d own cc nL) {a0 a1 : Value} {v : Int32} (hml : Cond.methodLink own idx yX8_type ∈ gtbl) (hd : decode cc pc = .ok (.invokevirtual idx, 3)) (hr : rX8_type G d [.ref (gad G 8), a0, a1] S (some (.int v)) S') (hst : (st.map fun v => v.category).sum ≤ 8) (k : AW X G (pc + 3) L (.int v :: st) S') : AW X G pc L (a1 :: a0 :: .ref (gad G 8) :: st) S :=
  ac_V hX (As := [a0, a1]) (C := RX8) hd hml ky_X8_type im_yX8_type se_yX8_type hr rfl rfl rfl hst rfl k
theorem ky_X8_in : KY yX8_in cX8_in 3 (some .boolean) 3 := ⟨in_X8, co_yX8_in, by decide +kernel, by decide⟩
abbrev rX8_in (G : GT) (d : Nat) (av : List Value) (S : St) (r : Option Value) (S' : St) : Prop := Runs G d yX8_in cX8_in 3 (some .boolean) av S r S'
theorem cs_X8_in (hX : XC X G d own cc nL) {a0 a1 a2 : Value} {v : Int32} (hml : Cond.methodLink own idx yX8_in ∈ gtbl) (hd : decode cc pc = .ok (.invokestatic idx, 3)) (hr : rX8_in G d [a0, a1, a2] S (some (.int v)) S') (hst : (st.map fun v => v.category).sum ≤ 8) (k : AW X G (pc + 3) L (.int v :: st) S') : AW X G pc L (a2 :: a1 :: a0 :: st) S :=
  ac_S hX (As := [a0, a1, a2]) hd hml ky_X8_in sm_yX8_in hr rfl hst rfl k
theorem ky_X8_clear : KY yX8_clear cX8_clear 2 (some .int) 0 := ⟨in_X8, co_yX8_clear, by decide +kernel, by decide⟩
abbrev rX8_clear (G : GT) (d : Nat) (av : List Value) (S : St) (r : Option Value) (S' : St) : Prop := Runs G d yX8_clear cX8_clear 2 (some .int) av S r S'
theorem cv_X8_clear (hX : XC X G d own cc nL) {v : Int32} (hml : Cond.methodLink own idx yX8_clear ∈ gtbl) (hd : decode cc pc = .ok (.invokevirtual idx, 3)) (hr : rX8_clear G d [.ref (gad G 8)] S (some (.int v)) S') (hst : (st.map fun v => v.category).sum ≤ 8) (k : AW X G (pc + 3) L (.int v :: st) S') : AW X G pc L (.ref (gad G 8) :: st) S :=
  ac_V hX (As := []) (C := RX8) hd hml ky_X8_clear im_yX8_clear se_yX8_clear hr rfl rfl rfl hst rfl k
theorem ky_X8_law : KY yX8_law cX8_law 2 (some .int) 0 := ⟨in_X8, co_yX8_law, by decide +kernel, by decide⟩
abbrev rX8_law (G : GT) (d : Nat) (av : List Value) (S : St) (r : Option Value) (S' : St) : Prop := Runs G d yX8_law cX8_law 2 (some .int) av S r S'
theorem cv_X8_law (hX : XC X G d own cc nL) {v : Int32} (hml : Cond.methodLink own idx yX8_law ∈ gtbl) (hd : decode cc pc = .ok (.invokevirtual idx, 3)) (hr : rX8_law G d [.ref (gad G 8)] S (some (.int v)) S') (hst : (st.map fun v => v.category).sum ≤ 8) (k : AW X G (pc + 3) L (.int v :: st) S') : AW X G pc L (.ref (gad G 8) :: st) S :=
  ac_V hX (As := []) (C := RX8) hd hml ky_X8_law im_yX8_law se_yX8_law hr rfl rfl rfl hst rfl k
theorem ky_X8_faultAlone : KY yX8_faultAlone cX8_faultAlone 3 (some .int) 0 := ⟨in_X8, co_yX8_faultAlone, by decide +kernel, by decide⟩
abbrev rX8_faultAlone (G : GT) (d : Nat) (av : List Value) (S : St) (r : Option Value) (S' : St) : Prop := Runs G d yX8_faultAlone cX8_faultAlone 3 (some .int) av S r S'
theorem cv_X8_faultAlone (hX : XC X G d own cc nL) {v : Int32} (hml : Cond.methodLink own idx yX8_faultAlone ∈ gtbl) (hd : decode cc pc = .ok (.invokevirtual idx, 3)) (hr : rX8_faultAlone G d [.ref (gad G 8)] S (some (.int v)) S') (hst : (st.map fun v => v.category).sum ≤ 8) (k : AW X G (pc + 3) L (.int v :: st) S') : AW X G pc L (.ref (gad G 8) :: st) S :=
  ac_V hX (As := []) (C := RX8) hd hml ky_X8_faultAlone im_yX8_faultAlone se_yX8_faultAlone hr rfl rfl rfl hst rfl k
theorem ky_X8_reads : KY yX8_reads cX8_reads 8 (some .int) 0 := ⟨in_X8, co_yX8_reads, by decide +kernel, by decide⟩
abbrev rX8_reads (G : GT) (d : Nat) (av : List Value) (S : St) (r : Option Value) (S' : St) : Prop := Runs G d yX8_reads cX8_reads 8 (some .int) av S r S'
theorem cv_X8_reads (hX : XC X G d own cc nL) {v : Int32} (hml : Cond.methodLink own idx yX8_reads ∈ gtbl) (hd : decode cc pc = .ok (.invokevirtual idx, 3)) (hr : rX8_reads G d [.ref (gad G 8)] S (some (.int v)) S') (hst : (st.map fun v => v.category).sum ≤ 8) (k : AW X G (pc + 3) L (.int v :: st) S') : AW X G pc L (.ref (gad G 8) :: st) S :=
  ac_V hX (As := []) (C := RX8) hd hml ky_X8_reads im_yX8_reads se_yX8_reads hr rfl rfl rfl hst rfl k
theorem ky_X8_isDigit : KY yX8_isDigit cX8_isDigit 2 (some .boolean) 1 := ⟨in_X8, co_yX8_isDigit, by decide +kernel, by decide⟩
abbrev rX8_isDigit (G : GT) (d : Nat) (av : List Value) (S : St) (r : Option Value) (S' : St) : Prop := Runs G d yX8_isDigit cX8_isDigit 2 (some .boolean) av S r S'
theorem cv_X8_isDigit (hX : XC X G d own cc nL) {a0 : Value} {v : Int32} (hml : Cond.methodLink own idx yX8_isDigit ∈ gtbl) (hd : decode cc pc = .ok (.invokevirtual idx, 3)) (hr : rX8_isDigit G d [.ref (gad G 8), a0] S (some (.int v)) S') (hst : (st.map fun v => v.category).sum ≤ 8) (k : AW X G (pc + 3) L (.int v :: st) S') : AW X G pc L (a0 :: .ref (gad G 8) :: st) S :=
  ac_V hX (As := [a0]) (C := RX8) hd hml ky_X8_isDigit im_yX8_isDigit se_yX8_isDigit hr rfl rfl rfl hst rfl k
theorem ky_X8_span : KY yX8_span cX8_span 3 (some .int) 2 := ⟨in_X8, co_yX8_span, by decide +kernel, by decide⟩
abbrev rX8_span (G : GT) (d : Nat) (av : List Value) (S : St) (r : Option Value) (S' : St) : Prop := Runs G d yX8_span cX8_span 3 (some .int) av S r S'
theorem cv_X8_span (hX : XC X G d own cc nL) {a0 a1 : Value} {v : Int32} (hml : Cond.methodLink own idx yX8_span ∈ gtbl) (hd : decode cc pc = .ok (.invokevirtual idx, 3)) (hr : rX8_span G d [.ref (gad G 8), a0, a1] S (some (.int v)) S') (hst : (st.map fun v => v.category).sum ≤ 8) (k : AW X G (pc + 3) L (.int v :: st) S') : AW X G pc L (a1 :: a0 :: .ref (gad G 8) :: st) S :=
  ac_V hX (As := [a0, a1]) (C := RX8) hd hml ky_X8_span im_yX8_span se_yX8_span hr rfl rfl rfl hst rfl k
theorem ky_X8_spanBy : KY yX8_spanBy cX8_spanBy 6 (some .int) 2 := ⟨in_X8, co_yX8_spanBy, by decide +kernel, by decide⟩
abbrev rX8_spanBy (G : GT) (d : Nat) (av : List Value) (S : St) (r : Option Value) (S' : St) : Prop := Runs G d yX8_spanBy cX8_spanBy 6 (some .int) av S r S'
theorem cv_X8_spanBy (hX : XC X G d own cc nL) {a0 a1 : Value} {v : Int32} (hml : Cond.methodLink own idx yX8_spanBy ∈ gtbl) (hd : decode cc pc = .ok (.invokevirtual idx, 3)) (hr : rX8_spanBy G d [.ref (gad G 8), a0, a1] S (some (.int v)) S') (hst : (st.map fun v => v.category).sum ≤ 8) (k : AW X G (pc + 3) L (.int v :: st) S') : AW X G pc L (a1 :: a0 :: .ref (gad G 8) :: st) S :=
  ac_V hX (As := [a0, a1]) (C := RX8) hd hml ky_X8_spanBy im_yX8_spanBy se_yX8_spanBy hr rfl rfl rfl hst rfl k
theorem ky_X8_days : KY yX8_days cX8_days 2 (some .int) 1 := ⟨in_X8, co_yX8_days, by decide +kernel, by decide⟩
abbrev rX8_days (G : GT) (d : Nat) (av : List Value) (S : St) (r : Option Value) (S' : St) : Prop := Runs G d yX8_days cX8_days 2 (some .int) av S r S'
theorem cv_X8_days (hX : XC X G d own cc nL) {a0 : Value} {v : Int32} (hml : Cond.methodLink own idx yX8_days ∈ gtbl) (hd : decode cc pc = .ok (.invokevirtual idx, 3)) (hr : rX8_days G d [.ref (gad G 8), a0] S (some (.int v)) S') (hst : (st.map fun v => v.category).sum ≤ 8) (k : AW X G (pc + 3) L (.int v :: st) S') : AW X G pc L (a0 :: .ref (gad G 8) :: st) S :=
  ac_V hX (As := [a0]) (C := RX8) hd hml ky_X8_days im_yX8_days se_yX8_days hr rfl rfl rfl hst rfl k
theorem ky_X8_flue : KY yX8_flue cX8_flue 10 (some .int) 8 := ⟨in_X8, co_yX8_flue, by decide +kernel, by decide⟩
abbrev rX8_flue (G : GT) (d : Nat) (av : List Value) (S : St) (r : Option Value) (S' : St) : Prop := Runs G d yX8_flue cX8_flue 10 (some .int) av S r S'
theorem cv_X8_flue (hX : XC X G d own cc nL) {a0 a1 a2 a3 a4 a5 a6 a7 : Value} {v : Int32} (hml : Cond.methodLink own idx yX8_flue ∈ gtbl) (hd : decode cc pc = .ok (.invokevirtual idx, 3)) (hr : rX8_flue G d [.ref (gad G 8), a0, a1, a2, a3, a4, a5, a6, a7] S (some (.int v)) S') (hst : (st.map fun v => v.category).sum ≤ 8) (k : AW X G (pc + 3) L (.int v :: st) S') : AW X G pc L (a7 :: a6 :: a5 :: a4 :: a3 :: a2 :: a1 :: a0 :: .ref (gad G 8) :: st) S :=
  ac_V hX (As := [a0, a1, a2, a3, a4, a5, a6, a7]) (C := RX8) hd hml ky_X8_flue im_yX8_flue se_yX8_flue hr rfl rfl rfl hst rfl k
theorem ky_X8_draught : KY yX8_draught cX8_draught 5 (some .int) 1 := ⟨in_X8, co_yX8_draught, by decide +kernel, by decide⟩
abbrev rX8_draught (G : GT) (d : Nat) (av : List Value) (S : St) (r : Option Value) (S' : St) : Prop := Runs G d yX8_draught cX8_draught 5 (some .int) av S r S'
theorem cv_X8_draught (hX : XC X G d own cc nL) {a0 : Value} {v : Int32} (hml : Cond.methodLink own idx yX8_draught ∈ gtbl) (hd : decode cc pc = .ok (.invokevirtual idx, 3)) (hr : rX8_draught G d [.ref (gad G 8), a0] S (some (.int v)) S') (hst : (st.map fun v => v.category).sum ≤ 8) (k : AW X G (pc + 3) L (.int v :: st) S') : AW X G pc L (a0 :: .ref (gad G 8) :: st) S :=
  ac_V hX (As := [a0]) (C := RX8) hd hml ky_X8_draught im_yX8_draught se_yX8_draught hr rfl rfl rfl hst rfl k
theorem ky_X8_isFlue : KY yX8_isFlue cX8_isFlue 2 (some .boolean) 1 := ⟨in_X8, co_yX8_isFlue, by decide +kernel, by decide⟩
abbrev rX8_isFlue (G : GT) (d : Nat) (av : List Value) (S : St) (r : Option Value) (S' : St) : Prop := Runs G d yX8_isFlue cX8_isFlue 2 (some .boolean) av S r S'
theorem cv_X8_isFlue (hX : XC X G d own cc nL) {a0 : Value} {v : Int32} (hml : Cond.methodLink own idx yX8_isFlue ∈ gtbl) (hd : decode cc pc = .ok (.invokevirtual idx, 3)) (hr : rX8_isFlue G d [.ref (gad G 8), a0] S (some (.int v)) S') (hst : (st.map fun v => v.category).sum ≤ 8) (k : AW X G (pc + 3) L (.int v :: st) S') : AW X G pc L (a0 :: .ref (gad G 8) :: st) S :=
  ac_V hX (As := [a0]) (C := RX8) hd hml ky_X8_isFlue im_yX8_isFlue se_yX8_isFlue hr rfl rfl rfl hst rfl k
theorem ky_X8_of : KY yX8_of cX8_of 3 (some .int) 2 := ⟨in_X8, co_yX8_of, by decide +kernel, by decide⟩
abbrev rX8_of (G : GT) (d : Nat) (av : List Value) (S : St) (r : Option Value) (S' : St) : Prop := Runs G d yX8_of cX8_of 3 (some .int) av S r S'
theorem cv_X8_of (hX : XC X G d own cc nL) {a0 a1 : Value} {v : Int32} (hml : Cond.methodLink own idx yX8_of ∈ gtbl) (hd : decode cc pc = .ok (.invokevirtual idx, 3)) (hr : rX8_of G d [.ref (gad G 8), a0, a1] S (some (.int v)) S') (hst : (st.map fun v => v.category).sum ≤ 8) (k : AW X G (pc + 3) L (.int v :: st) S') : AW X G pc L (a1 :: a0 :: .ref (gad G 8) :: st) S :=
  ac_V hX (As := [a0, a1]) (C := RX8) hd hml ky_X8_of im_yX8_of se_yX8_of hr rfl rfl rfl hst rfl k
theorem ky_X8_about : KY yX8_about cX8_about 3 (some .int) 2 := ⟨in_X8, co_yX8_about, by decide +kernel, by decide⟩
abbrev rX8_about (G : GT) (d : Nat) (av : List Value) (S : St) (r : Option Value) (S' : St) : Prop := Runs G d yX8_about cX8_about 3 (some .int) av S r S'
theorem cv_X8_about (hX : XC X G d own cc nL) {a0 a1 : Value} {v : Int32} (hml : Cond.methodLink own idx yX8_about ∈ gtbl) (hd : decode cc pc = .ok (.invokevirtual idx, 3)) (hr : rX8_about G d [.ref (gad G 8), a0, a1] S (some (.int v)) S') (hst : (st.map fun v => v.category).sum ≤ 8) (k : AW X G (pc + 3) L (.int v :: st) S') : AW X G pc L (a1 :: a0 :: .ref (gad G 8) :: st) S :=
  ac_V hX (As := [a0, a1]) (C := RX8) hd hml ky_X8_about im_yX8_about se_yX8_about hr rfl rfl rfl hst rfl k
theorem ky_X8_isForbidden : KY yX8_isForbidden cX8_isForbidden 2 (some .boolean) 1 := ⟨in_X8, co_yX8_isForbidden, by decide +kernel, by decide⟩
abbrev rX8_isForbidden (G : GT) (d : Nat) (av : List Value) (S : St) (r : Option Value) (S' : St) : Prop := Runs G d yX8_isForbidden cX8_isForbidden 2 (some .boolean) av S r S'
theorem cv_X8_isForbidden (hX : XC X G d own cc nL) {a0 : Value} {v : Int32} (hml : Cond.methodLink own idx yX8_isForbidden ∈ gtbl) (hd : decode cc pc = .ok (.invokevirtual idx, 3)) (hr : rX8_isForbidden G d [.ref (gad G 8), a0] S (some (.int v)) S') (hst : (st.map fun v => v.category).sum ≤ 8) (k : AW X G (pc + 3) L (.int v :: st) S') : AW X G pc L (a0 :: .ref (gad G 8) :: st) S :=
  ac_V hX (As := [a0]) (C := RX8) hd hml ky_X8_isForbidden im_yX8_isForbidden se_yX8_isForbidden hr rfl rfl rfl hst rfl k
theorem ky_X8_knownOn : KY yX8_knownOn cX8_knownOn 6 (some .int) 2 := ⟨in_X8, co_yX8_knownOn, by decide +kernel, by decide⟩
abbrev rX8_knownOn (G : GT) (d : Nat) (av : List Value) (S : St) (r : Option Value) (S' : St) : Prop := Runs G d yX8_knownOn cX8_knownOn 6 (some .int) av S r S'
theorem cv_X8_knownOn (hX : XC X G d own cc nL) {a0 a1 : Value} {v : Int32} (hml : Cond.methodLink own idx yX8_knownOn ∈ gtbl) (hd : decode cc pc = .ok (.invokevirtual idx, 3)) (hr : rX8_knownOn G d [.ref (gad G 8), a0, a1] S (some (.int v)) S') (hst : (st.map fun v => v.category).sum ≤ 8) (k : AW X G (pc + 3) L (.int v :: st) S') : AW X G pc L (a1 :: a0 :: .ref (gad G 8) :: st) S :=
  ac_V hX (As := [a0, a1]) (C := RX8) hd hml ky_X8_knownOn im_yX8_knownOn se_yX8_knownOn hr rfl rfl rfl hst rfl k
theorem ky_X8_doer : KY yX8_doer cX8_doer 11 (some .int) 1 := ⟨in_X8, co_yX8_doer, by decide +kernel, by decide⟩
abbrev rX8_doer (G : GT) (d : Nat) (av : List Value) (S : St) (r : Option Value) (S' : St) : Prop := Runs G d yX8_doer cX8_doer 11 (some .int) av S r S'
theorem cv_X8_doer (hX : XC X G d own cc nL) {a0 : Value} {v : Int32} (hml : Cond.methodLink own idx yX8_doer ∈ gtbl) (hd : decode cc pc = .ok (.invokevirtual idx, 3)) (hr : rX8_doer G d [.ref (gad G 8), a0] S (some (.int v)) S') (hst : (st.map fun v => v.category).sum ≤ 8) (k : AW X G (pc + 3) L (.int v :: st) S') : AW X G pc L (a0 :: .ref (gad G 8) :: st) S :=
  ac_V hX (As := [a0]) (C := RX8) hd hml ky_X8_doer im_yX8_doer se_yX8_doer hr rfl rfl rfl hst rfl k
theorem ky_X8_due : KY yX8_due cX8_due 2 (some .int) 1 := ⟨in_X8, co_yX8_due, by decide +kernel, by decide⟩
abbrev rX8_due (G : GT) (d : Nat) (av : List Value) (S : St) (r : Option Value) (S' : St) : Prop := Runs G d yX8_due cX8_due 2 (some .int) av S r S'
theorem cv_X8_due (hX : XC X G d own cc nL) {a0 : Value} {v : Int32} (hml : Cond.methodLink own idx yX8_due ∈ gtbl) (hd : decode cc pc = .ok (.invokevirtual idx, 3)) (hr : rX8_due G d [.ref (gad G 8), a0] S (some (.int v)) S') (hst : (st.map fun v => v.category).sum ≤ 8) (k : AW X G (pc + 3) L (.int v :: st) S') : AW X G pc L (a0 :: .ref (gad G 8) :: st) S :=
  ac_V hX (As := [a0]) (C := RX8) hd hml ky_X8_due im_yX8_due se_yX8_due hr rfl rfl rfl hst rfl k
theorem ky_X8_dueBy : KY yX8_dueBy cX8_dueBy 4 (some .int) 2 := ⟨in_X8, co_yX8_dueBy, by decide +kernel, by decide⟩
abbrev rX8_dueBy (G : GT) (d : Nat) (av : List Value) (S : St) (r : Option Value) (S' : St) : Prop := Runs G d yX8_dueBy cX8_dueBy 4 (some .int) av S r S'
theorem cv_X8_dueBy (hX : XC X G d own cc nL) {a0 a1 : Value} {v : Int32} (hml : Cond.methodLink own idx yX8_dueBy ∈ gtbl) (hd : decode cc pc = .ok (.invokevirtual idx, 3)) (hr : rX8_dueBy G d [.ref (gad G 8), a0, a1] S (some (.int v)) S') (hst : (st.map fun v => v.category).sum ≤ 8) (k : AW X G (pc + 3) L (.int v :: st) S') : AW X G pc L (a1 :: a0 :: .ref (gad G 8) :: st) S :=
  ac_V hX (As := [a0, a1]) (C := RX8) hd hml ky_X8_dueBy im_yX8_dueBy se_yX8_dueBy hr rfl rfl rfl hst rfl k
theorem ky_X8_beyond : KY yX8_beyond cX8_beyond 3 (some .int) 0 := ⟨in_X8, co_yX8_beyond, by decide +kernel, by decide⟩
abbrev rX8_beyond (G : GT) (d : Nat) (av : List Value) (S : St) (r : Option Value) (S' : St) : Prop := Runs G d yX8_beyond cX8_beyond 3 (some .int) av S r S'
theorem cv_X8_beyond (hX : XC X G d own cc nL) {v : Int32} (hml : Cond.methodLink own idx yX8_beyond ∈ gtbl) (hd : decode cc pc = .ok (.invokevirtual idx, 3)) (hr : rX8_beyond G d [.ref (gad G 8)] S (some (.int v)) S') (hst : (st.map fun v => v.category).sum ≤ 8) (k : AW X G (pc + 3) L (.int v :: st) S') : AW X G pc L (.ref (gad G 8) :: st) S :=
  ac_V hX (As := []) (C := RX8) hd hml ky_X8_beyond im_yX8_beyond se_yX8_beyond hr rfl rfl rfl hst rfl k
theorem ky_X8_sweep : KY yX8_sweep cX8_sweep 4 (some .int) 1 := ⟨in_X8, co_yX8_sweep, by decide +kernel, by decide⟩
abbrev rX8_sweep (G : GT) (d : Nat) (av : List Value) (S : St) (r : Option Value) (S' : St) : Prop := Runs G d yX8_sweep cX8_sweep 4 (some .int) av S r S'
theorem cv_X8_sweep (hX : XC X G d own cc nL) {a0 : Value} {v : Int32} (hml : Cond.methodLink own idx yX8_sweep ∈ gtbl) (hd : decode cc pc = .ok (.invokevirtual idx, 3)) (hr : rX8_sweep G d [.ref (gad G 8), a0] S (some (.int v)) S') (hst : (st.map fun v => v.category).sum ≤ 8) (k : AW X G (pc + 3) L (.int v :: st) S') : AW X G pc L (a0 :: .ref (gad G 8) :: st) S :=
  ac_V hX (As := [a0]) (C := RX8) hd hml ky_X8_sweep im_yX8_sweep se_yX8_sweep hr rfl rfl rfl hst rfl k
theorem ky_X8_refuse : KY yX8_refuse cX8_refuse 2 (some .int) 1 := ⟨in_X8, co_yX8_refuse, by decide +kernel, by decide⟩
abbrev rX8_refuse (G : GT) (d : Nat) (av : List Value) (S : St) (r : Option Value) (S' : St) : Prop := Runs G d yX8_refuse cX8_refuse 2 (some .int) av S r S'
theorem cv_X8_refuse (hX : XC X G d own cc nL) {a0 : Value} {v : Int32} (hml : Cond.methodLink own idx yX8_refuse ∈ gtbl) (hd : decode cc pc = .ok (.invokevirtual idx, 3)) (hr : rX8_refuse G d [.ref (gad G 8), a0] S (some (.int v)) S') (hst : (st.map fun v => v.category).sum ≤ 8) (k : AW X G (pc + 3) L (.int v :: st) S') : AW X G pc L (a0 :: .ref (gad G 8) :: st) S :=
  ac_V hX (As := [a0]) (C := RX8) hd hml ky_X8_refuse im_yX8_refuse se_yX8_refuse hr rfl rfl rfl hst rfl k
theorem ky_X8_look : KY yX8_look cX8_look 4 (some .int) 3 := ⟨in_X8, co_yX8_look, by decide +kernel, by decide⟩
abbrev rX8_look (G : GT) (d : Nat) (av : List Value) (S : St) (r : Option Value) (S' : St) : Prop := Runs G d yX8_look cX8_look 4 (some .int) av S r S'
theorem cv_X8_look (hX : XC X G d own cc nL) {a0 a1 a2 : Value} {v : Int32} (hml : Cond.methodLink own idx yX8_look ∈ gtbl) (hd : decode cc pc = .ok (.invokevirtual idx, 3)) (hr : rX8_look G d [.ref (gad G 8), a0, a1, a2] S (some (.int v)) S') (hst : (st.map fun v => v.category).sum ≤ 8) (k : AW X G (pc + 3) L (.int v :: st) S') : AW X G pc L (a2 :: a1 :: a0 :: .ref (gad G 8) :: st) S :=
  ac_V hX (As := [a0, a1, a2]) (C := RX8) hd hml ky_X8_look im_yX8_look se_yX8_look hr rfl rfl rfl hst rfl k
theorem ky_X8_known : KY yX8_known cX8_known 3 (some .int) 2 := ⟨in_X8, co_yX8_known, by decide +kernel, by decide⟩
abbrev rX8_known (G : GT) (d : Nat) (av : List Value) (S : St) (r : Option Value) (S' : St) : Prop := Runs G d yX8_known cX8_known 3 (some .int) av S r S'
theorem cv_X8_known (hX : XC X G d own cc nL) {a0 a1 : Value} {v : Int32} (hml : Cond.methodLink own idx yX8_known ∈ gtbl) (hd : decode cc pc = .ok (.invokevirtual idx, 3)) (hr : rX8_known G d [.ref (gad G 8), a0, a1] S (some (.int v)) S') (hst : (st.map fun v => v.category).sum ≤ 8) (k : AW X G (pc + 3) L (.int v :: st) S') : AW X G pc L (a1 :: a0 :: .ref (gad G 8) :: st) S :=
  ac_V hX (As := [a0, a1]) (C := RX8) hd hml ky_X8_known im_yX8_known se_yX8_known hr rfl rfl rfl hst rfl k
theorem ky_X8_fire : KY yX8_fire cX8_fire 3 (some .int) 2 := ⟨in_X8, co_yX8_fire, by decide +kernel, by decide⟩
abbrev rX8_fire (G : GT) (d : Nat) (av : List Value) (S : St) (r : Option Value) (S' : St) : Prop := Runs G d yX8_fire cX8_fire 3 (some .int) av S r S'
theorem cv_X8_fire (hX : XC X G d own cc nL) {a0 a1 : Value} {v : Int32} (hml : Cond.methodLink own idx yX8_fire ∈ gtbl) (hd : decode cc pc = .ok (.invokevirtual idx, 3)) (hr : rX8_fire G d [.ref (gad G 8), a0, a1] S (some (.int v)) S') (hst : (st.map fun v => v.category).sum ≤ 8) (k : AW X G (pc + 3) L (.int v :: st) S') : AW X G pc L (a1 :: a0 :: .ref (gad G 8) :: st) S :=
  ac_V hX (As := [a0, a1]) (C := RX8) hd hml ky_X8_fire im_yX8_fire se_yX8_fire hr rfl rfl rfl hst rfl k
theorem ky_X8_back : KY yX8_back cX8_back 8 (some .int) 2 := ⟨in_X8, co_yX8_back, by decide +kernel, by decide⟩
abbrev rX8_back (G : GT) (d : Nat) (av : List Value) (S : St) (r : Option Value) (S' : St) : Prop := Runs G d yX8_back cX8_back 8 (some .int) av S r S'
theorem cv_X8_back (hX : XC X G d own cc nL) {a0 a1 : Value} {v : Int32} (hml : Cond.methodLink own idx yX8_back ∈ gtbl) (hd : decode cc pc = .ok (.invokevirtual idx, 3)) (hr : rX8_back G d [.ref (gad G 8), a0, a1] S (some (.int v)) S') (hst : (st.map fun v => v.category).sum ≤ 8) (k : AW X G (pc + 3) L (.int v :: st) S') : AW X G pc L (a1 :: a0 :: .ref (gad G 8) :: st) S :=
  ac_V hX (As := [a0, a1]) (C := RX8) hd hml ky_X8_back im_yX8_back se_yX8_back hr rfl rfl rfl hst rfl k
theorem ky_X8_rate : KY yX8_rate cX8_rate 3 (some .int) 1 := ⟨in_X8, co_yX8_rate, by decide +kernel, by decide⟩
abbrev rX8_rate (G : GT) (d : Nat) (av : List Value) (S : St) (r : Option Value) (S' : St) : Prop := Runs G d yX8_rate cX8_rate 3 (some .int) av S r S'
theorem cv_X8_rate (hX : XC X G d own cc nL) {a0 : Value} {v : Int32} (hml : Cond.methodLink own idx yX8_rate ∈ gtbl) (hd : decode cc pc = .ok (.invokevirtual idx, 3)) (hr : rX8_rate G d [.ref (gad G 8), a0] S (some (.int v)) S') (hst : (st.map fun v => v.category).sum ≤ 8) (k : AW X G (pc + 3) L (.int v :: st) S') : AW X G pc L (a0 :: .ref (gad G 8) :: st) S :=
  ac_V hX (As := [a0]) (C := RX8) hd hml ky_X8_rate im_yX8_rate se_yX8_rate hr rfl rfl rfl hst rfl k
theorem ky_X8_ill : KY yX8_ill cX8_ill 4 (some .int) 2 := ⟨in_X8, co_yX8_ill, by decide +kernel, by decide⟩
abbrev rX8_ill (G : GT) (d : Nat) (av : List Value) (S : St) (r : Option Value) (S' : St) : Prop := Runs G d yX8_ill cX8_ill 4 (some .int) av S r S'
theorem cv_X8_ill (hX : XC X G d own cc nL) {a0 a1 : Value} {v : Int32} (hml : Cond.methodLink own idx yX8_ill ∈ gtbl) (hd : decode cc pc = .ok (.invokevirtual idx, 3)) (hr : rX8_ill G d [.ref (gad G 8), a0, a1] S (some (.int v)) S') (hst : (st.map fun v => v.category).sum ≤ 8) (k : AW X G (pc + 3) L (.int v :: st) S') : AW X G pc L (a1 :: a0 :: .ref (gad G 8) :: st) S :=
  ac_V hX (As := [a0, a1]) (C := RX8) hd hml ky_X8_ill im_yX8_ill se_yX8_ill hr rfl rfl rfl hst rfl k
theorem ky_X8_isHand : KY yX8_isHand cX8_isHand 1 (some .boolean) 1 := ⟨in_X8, co_yX8_isHand, by decide +kernel, by decide⟩
abbrev rX8_isHand (G : GT) (d : Nat) (av : List Value) (S : St) (r : Option Value) (S' : St) : Prop := Runs G d yX8_isHand cX8_isHand 1 (some .boolean) av S r S'
theorem cs_X8_isHand (hX : XC X G d own cc nL) {a0 : Value} {v : Int32} (hml : Cond.methodLink own idx yX8_isHand ∈ gtbl) (hd : decode cc pc = .ok (.invokestatic idx, 3)) (hr : rX8_isHand G d [a0] S (some (.int v)) S') (hst : (st.map fun v => v.category).sum ≤ 8) (k : AW X G (pc + 3) L (.int v :: st) S') : AW X G pc L (a0 :: st) S :=
  ac_S hX (As := [a0]) hd hml ky_X8_isHand sm_yX8_isHand hr rfl hst rfl k
theorem ky_X8_fees : KY yX8_fees cX8_fees 5 (some .int) 2 := ⟨in_X8, co_yX8_fees, by decide +kernel, by decide⟩
abbrev rX8_fees (G : GT) (d : Nat) (av : List Value) (S : St) (r : Option Value) (S' : St) : Prop := Runs G d yX8_fees cX8_fees 5 (some .int) av S r S'
theorem cv_X8_fees (hX : XC X G d own cc nL) {a0 a1 : Value} {v : Int32} (hml : Cond.methodLink own idx yX8_fees ∈ gtbl) (hd : decode cc pc = .ok (.invokevirtual idx, 3)) (hr : rX8_fees G d [.ref (gad G 8), a0, a1] S (some (.int v)) S') (hst : (st.map fun v => v.category).sum ≤ 8) (k : AW X G (pc + 3) L (.int v :: st) S') : AW X G pc L (a1 :: a0 :: .ref (gad G 8) :: st) S :=
  ac_V hX (As := [a0, a1]) (C := RX8) hd hml ky_X8_fees im_yX8_fees se_yX8_fees hr rfl rfl rfl hst rfl k
theorem ky_X8_round : KY yX8_round cX8_round 11 (some .int) 3 := ⟨in_X8, co_yX8_round, by decide +kernel, by decide⟩
abbrev rX8_round (G : GT) (d : Nat) (av : List Value) (S : St) (r : Option Value) (S' : St) : Prop := Runs G d yX8_round cX8_round 11 (some .int) av S r S'
theorem cv_X8_round (hX : XC X G d own cc nL) {a0 a1 a2 : Value} {v : Int32} (hml : Cond.methodLink own idx yX8_round ∈ gtbl) (hd : decode cc pc = .ok (.invokevirtual idx, 3)) (hr : rX8_round G d [.ref (gad G 8), a0, a1, a2] S (some (.int v)) S') (hst : (st.map fun v => v.category).sum ≤ 8) (k : AW X G (pc + 3) L (.int v :: st) S') : AW X G pc L (a2 :: a1 :: a0 :: .ref (gad G 8) :: st) S :=
  ac_V hX (As := [a0, a1, a2]) (C := RX8) hd hml ky_X8_round im_yX8_round se_yX8_round hr rfl rfl rfl hst rfl k
theorem ky_X8_wayOf : KY yX8_wayOf cX8_wayOf 8 (some .int) 1 := ⟨in_X8, co_yX8_wayOf, by decide +kernel, by decide⟩
abbrev rX8_wayOf (G : GT) (d : Nat) (av : List Value) (S : St) (r : Option Value) (S' : St) : Prop := Runs G d yX8_wayOf cX8_wayOf 8 (some .int) av S r S'
theorem cv_X8_wayOf (hX : XC X G d own cc nL) {a0 : Value} {v : Int32} (hml : Cond.methodLink own idx yX8_wayOf ∈ gtbl) (hd : decode cc pc = .ok (.invokevirtual idx, 3)) (hr : rX8_wayOf G d [.ref (gad G 8), a0] S (some (.int v)) S') (hst : (st.map fun v => v.category).sum ≤ 8) (k : AW X G (pc + 3) L (.int v :: st) S') : AW X G pc L (a0 :: .ref (gad G 8) :: st) S :=
  ac_V hX (As := [a0]) (C := RX8) hd hml ky_X8_wayOf im_yX8_wayOf se_yX8_wayOf hr rfl rfl rfl hst rfl k
theorem ky_X8_goesOn : KY yX8_goesOn cX8_goesOn 7 (some .boolean) 1 := ⟨in_X8, co_yX8_goesOn, by decide +kernel, by decide⟩
abbrev rX8_goesOn (G : GT) (d : Nat) (av : List Value) (S : St) (r : Option Value) (S' : St) : Prop := Runs G d yX8_goesOn cX8_goesOn 7 (some .boolean) av S r S'
theorem cv_X8_goesOn (hX : XC X G d own cc nL) {a0 : Value} {v : Int32} (hml : Cond.methodLink own idx yX8_goesOn ∈ gtbl) (hd : decode cc pc = .ok (.invokevirtual idx, 3)) (hr : rX8_goesOn G d [.ref (gad G 8), a0] S (some (.int v)) S') (hst : (st.map fun v => v.category).sum ≤ 8) (k : AW X G (pc + 3) L (.int v :: st) S') : AW X G pc L (a0 :: .ref (gad G 8) :: st) S :=
  ac_V hX (As := [a0]) (C := RX8) hd hml ky_X8_goesOn im_yX8_goesOn se_yX8_goesOn hr rfl rfl rfl hst rfl k
theorem ky_X8_at : KY yX8_at cX8_at 2 (some .int) 1 := ⟨in_X8, co_yX8_at, by decide +kernel, by decide⟩
abbrev rX8_at (G : GT) (d : Nat) (av : List Value) (S : St) (r : Option Value) (S' : St) : Prop := Runs G d yX8_at cX8_at 2 (some .int) av S r S'
theorem cv_X8_at (hX : XC X G d own cc nL) {a0 : Value} {v : Int32} (hml : Cond.methodLink own idx yX8_at ∈ gtbl) (hd : decode cc pc = .ok (.invokevirtual idx, 3)) (hr : rX8_at G d [.ref (gad G 8), a0] S (some (.int v)) S') (hst : (st.map fun v => v.category).sum ≤ 8) (k : AW X G (pc + 3) L (.int v :: st) S') : AW X G pc L (a0 :: .ref (gad G 8) :: st) S :=
  ac_V hX (As := [a0]) (C := RX8) hd hml ky_X8_at im_yX8_at se_yX8_at hr rfl rfl rfl hst rfl k
theorem ky_X8_count : KY yX8_count cX8_count 2 (some .int) 1 := ⟨in_X8, co_yX8_count, by decide +kernel, by decide⟩
abbrev rX8_count (G : GT) (d : Nat) (av : List Value) (S : St) (r : Option Value) (S' : St) : Prop := Runs G d yX8_count cX8_count 2 (some .int) av S r S'
theorem cv_X8_count (hX : XC X G d own cc nL) {a0 : Value} {v : Int32} (hml : Cond.methodLink own idx yX8_count ∈ gtbl) (hd : decode cc pc = .ok (.invokevirtual idx, 3)) (hr : rX8_count G d [.ref (gad G 8), a0] S (some (.int v)) S') (hst : (st.map fun v => v.category).sum ≤ 8) (k : AW X G (pc + 3) L (.int v :: st) S') : AW X G pc L (a0 :: .ref (gad G 8) :: st) S :=
  ac_V hX (As := [a0]) (C := RX8) hd hml ky_X8_count im_yX8_count se_yX8_count hr rfl rfl rfl hst rfl k
theorem ky_X8_trace : KY yX8_trace cX8_trace 1 (some .long) 0 := ⟨in_X8, co_yX8_trace, by decide +kernel, by decide⟩
abbrev rX8_trace (G : GT) (d : Nat) (av : List Value) (S : St) (r : Option Value) (S' : St) : Prop := Runs G d yX8_trace cX8_trace 1 (some .long) av S r S'
theorem cv_X8_trace (hX : XC X G d own cc nL) {v : Int64} (hml : Cond.methodLink own idx yX8_trace ∈ gtbl) (hd : decode cc pc = .ok (.invokevirtual idx, 3)) (hr : rX8_trace G d [.ref (gad G 8)] S (some (.long v)) S') (hst : (st.map fun v => v.category).sum ≤ 8) (k : AW X G (pc + 3) L (.long v :: st) S') : AW X G pc L (.ref (gad G 8) :: st) S :=
  ac_V hX (As := []) (C := RX8) hd hml ky_X8_trace im_yX8_trace se_yX8_trace hr rfl rfl rfl hst rfl k
end AWC
