/-! the constructors: worlds that grow -/
def CW (X : XT) (D : va_G) (pc : Nat) (L st : List Value) (ws : va_W) (kc ks : Nat) : Prop := match X with
  | (p, l, e, R, s, m, args, below, meth, c, cells, slots, Q, A) => ∀ (H : Heap) (locs : List Loc) (ls : Array Slot), va_P D vwCl ws H → va_D A ws → va_S A s.heap H locs → hasL ls c.maxLocals L → W p l e R s m args below meth c H locs kc ks Q (F0 m pc ls st)
def cty (cI cZ : ClassId) : List (ClassId × FieldType) := [(cI, .int), (cZ, .boolean)]
def CX (X : XT) (D : va_G) (cI cZ : ClassId) (d mc ms : Nat) (own : String) (cc : ByteArray) (nL : Nat) (nm : Bool) : Prop := match X with
  | (p, l, e, R, s, m, args, below, meth, c, cells, slots, Q, A) => p.tables.exec = Jvm.exec ∧ c.code = cc ∧ c.maxLocals = nL ∧ s.vm.findClass own = some m.cls ∧ (∀ w ∈ gtbl, w.before args s = true) ∧ va_K D vwCl (cty cI cZ) s ∧ (∀ q : Nat, s.heap.size ≤ q → A q) ∧ d + 1 ≤ R.frames ∧ 64 * (d + 1) ≤ R.locals ∧ mc ≤ R.cells ∧ ms ≤ R.slots ∧ (nm = true → meth.name = "<init>")
section CWR
variable {X : XT} {D : va_G} {cI cZ : ClassId} {d mc ms : Nat} {own : String} {cc : ByteArray} {nL : Nat} {nm : Bool} {pc : Nat} {L st : List Value} {ws : va_W} {kc ks : Nat}
theorem cw_iconst (hX : CX X D cI cZ d mc ms own cc nL nm) {n : Int} {v : Int32} (hv : Int32.ofInt n = v) (hd : decode cc pc = .ok (.iconst n, 1)) (k : CW X D (pc + 1) L (.int v :: st) ws kc ks) : CW X D pc L (st) ws kc ks := by
  obtain ⟨p, l, e, R, s, m, args, below, meth, c, cells, slots, Q, A⟩ := X
  exact fun H locs ls hP hD hS hl => lv_iconst hX.1 hX.2.1 hd hv (k H locs ls hP hD hS hl)
theorem cw_bipush (hX : CX X D cI cZ d mc ms own cc nL nm) {n : Int} {v : Int32} (hv : (Int8.ofInt n).toInt32 = v) (hd : decode cc pc = .ok (.bipush n, 2)) (k : CW X D (pc + 2) L (.int v :: st) ws kc ks) : CW X D pc L (st) ws kc ks := by
  obtain ⟨p, l, e, R, s, m, args, below, meth, c, cells, slots, Q, A⟩ := X
  exact fun H locs ls hP hD hS hl => lv_bipush hX.1 hX.2.1 hd hv (k H locs ls hP hD hS hl)
theorem cw_sipush (hX : CX X D cI cZ d mc ms own cc nL nm) {n : Int} {v : Int32} (hv : (Int16.ofInt n).toInt32 = v) (hd : decode cc pc = .ok (.sipush n, 3)) (k : CW X D (pc + 3) L (.int v :: st) ws kc ks) : CW X D pc L (st) ws kc ks := by
  obtain ⟨p, l, e, R, s, m, args, below, meth, c, cells, slots, Q, A⟩ := X
  exact fun H locs ls hP hD hS hl => lv_sipush hX.1 hX.2.1 hd hv (k H locs ls hP hD hS hl)
theorem cw_lconst (hX : CX X D cI cZ d mc ms own cc nL nm) {n : Fin 2} {v : Int64} (hv : Int64.ofNat (n : Nat) = v) (hd : decode cc pc = .ok (.lconst n, 1)) (k : CW X D (pc + 1) L (.long v :: st) ws kc ks) : CW X D pc L (st) ws kc ks := by
  obtain ⟨p, l, e, R, s, m, args, below, meth, c, cells, slots, Q, A⟩ := X
  exact fun H locs ls hP hD hS hl => lv_lconst hX.1 hX.2.1 hd hv (k H locs ls hP hD hS hl)
theorem cw_dup (hX : CX X D cI cZ d mc ms own cc nL nm) {a : Value} (ha : a.category = 1) (hd : decode cc pc = .ok (.dup, 1)) (k : CW X D (pc + 1) L (a :: a :: st) ws kc ks) : CW X D pc L (a :: st) ws kc ks := by
  obtain ⟨p, l, e, R, s, m, args, below, meth, c, cells, slots, Q, A⟩ := X
  exact fun H locs ls hP hD hS hl => lv_dup hX.1 hX.2.1 hd ha (k H locs ls hP hD hS hl)
theorem cw_aload_0 (hX : CX X D cI cZ d mc ms own cc nL nm) {x : Nat} {t : List Value} (hd : decode cc pc = .ok (.aload_n 0, 1)) (k : CW X D (pc + 1) (.ref x :: t) (.ref x :: st) ws kc ks) : CW X D pc (.ref x :: t) (st) ws kc ks := by
  obtain ⟨p, l, e, R, s, m, args, below, meth, c, cells, slots, Q, A⟩ := X
  exact fun H locs ls hP hD hS hl => lv_aload_n hX.1 hX.2.1 hd rfl (hl.get (i := 0) rfl (by intro h; cases h)) (k H locs ls hP hD hS hl)
theorem cw_objinit (hX : CX X D cI cZ d mc ms own cc nL nm) {idx a : Nat} (hml : Cond.methodLink own idx Lib.objectInit ∈ gtbl) (hd : decode cc pc = .ok (.invokespecial idx, 3)) (hst : (st.map fun v => v.category).sum + 12 ≤ 64) (k : CW X D (pc + 3) L st ws kc ks) : CW X D pc L (.ref a :: st) ws kc ks := by
  obtain ⟨p, l, e, R, s, m, args, below, meth, c, cells, slots, Q, A⟩ := X
  exact fun H locs ls hP hD hS hl => W.objInit hX.1 hX.2.1 hX.2.2.2.1 (hX.2.2.2.2.1 _ hml) (hX.2.2.2.2.1 _ im_Lib_objectInit) (hX.2.2.2.2.1 _ co_objinit) rfl hl.1 rfl hd (by have := hX.2.2.2.2.2.2.2.1; omega) (by have := hX.2.2.2.2.2.2.2.2.1; show 2 * 0 + _ + 12 ≤ _; omega) (k H locs ls hP hD hS hl)
theorem cw_newaI (hX : CX X D cI cZ d mc ms own cc nL nm) {N : Nat} (hd : decode cc pc = .ok (.newarray .int, 2)) (hN : N < 2 ^ 20) (hc : kc + 1 ≤ mc) (hs : ks + N ≤ ms) (k : ∀ q : Nat, CW X D (pc + 2) L (.ref q :: st) (ws ++ [(q, .inl (cI, N, .inl (fun _ => 0)))]) (kc + 1) (ks + N)) : CW X D pc L (.int (nI N) :: st) ws kc ks := by
  obtain ⟨p, l, e, R, s, m, args, below, meth, c, cells, slots, Q, A⟩ := X
  have hcb : componentBytes FieldType.int ≤ 4 := by decide
  have hbb : N * componentBytes FieldType.int ≤ 536870912 := Nat.le_trans (Nat.mul_le_mul (Nat.le_of_lt hN) hcb) (by decide)
  have hNN : N < 2 ^ 31 := Nat.lt_trans hN (by decide)
  have hpos : ¬ nI N < 0 := nI_pos hNN
  have hcl : (nI N).toNatClampNeg = N := nI_clamp hNN
  intro H locs ls hP hD hS hl
  have hcc : kc + 1 ≤ R.cells := Nat.le_trans hc hX.2.2.2.2.2.2.2.2.2.1
  have hss : ks + N ≤ R.slots := Nat.le_trans hs hX.2.2.2.2.2.2.2.2.2.2.1
  refine va_newa (atype := .int) hX.1 hX.2.1 (ty := .int) (hX.2.2.2.2.1 (.arrayClass .int) ac_int) rfl hX.2.2.2.2.2.1 hP hD hS hX.2.2.2.2.2.2.1 (n := nI N) (N' := N) (a0 := (N, .inl (fun _ => 0))) (fun cA => rfl) hpos hcl hbb hcc hss hd (fun q cA H1 hK1 hP1 hD1 hS1 => ?_)
  have e : cA = cI := by
    have h1 := (hK1.2 2 _ rfl).2
    have h2 := (hX.2.2.2.2.2.1.2 0 _ rfl).2
    exact Option.some.inj (h1.symm.trans h2)
  subst e
  exact k q H1 locs ls hP1 hD1 hS1 hl
theorem cw_newaZ (hX : CX X D cI cZ d mc ms own cc nL nm) {N : Nat} (hd : decode cc pc = .ok (.newarray .boolean, 2)) (hN : N < 2 ^ 20) (hc : kc + 1 ≤ mc) (hs : ks + N ≤ ms) (k : ∀ q : Nat, CW X D (pc + 2) L (.ref q :: st) (ws ++ [(q, .inl (cZ, N, .inl (fun _ => 0)))]) (kc + 1) (ks + N)) : CW X D pc L (.int (nI N) :: st) ws kc ks := by
  obtain ⟨p, l, e, R, s, m, args, below, meth, c, cells, slots, Q, A⟩ := X
  have hcb : componentBytes FieldType.boolean ≤ 4 := by decide
  have hbb : N * componentBytes FieldType.boolean ≤ 536870912 := Nat.le_trans (Nat.mul_le_mul (Nat.le_of_lt hN) hcb) (by decide)
  have hNN : N < 2 ^ 31 := Nat.lt_trans hN (by decide)
  have hpos : ¬ nI N < 0 := nI_pos hNN
  have hcl : (nI N).toNatClampNeg = N := nI_clamp hNN
  intro H locs ls hP hD hS hl
  have hcc : kc + 1 ≤ R.cells := Nat.le_trans hc hX.2.2.2.2.2.2.2.2.2.1
  have hss : ks + N ≤ R.slots := Nat.le_trans hs hX.2.2.2.2.2.2.2.2.2.2.1
  refine va_newa (atype := .boolean) hX.1 hX.2.1 (ty := .boolean) (hX.2.2.2.2.1 (.arrayClass .boolean) ac_boolean) rfl hX.2.2.2.2.2.1 hP hD hS hX.2.2.2.2.2.2.1 (n := nI N) (N' := N) (a0 := (N, .inl (fun _ => 0))) (fun cA => rfl) hpos hcl hbb hcc hss hd (fun q cA H1 hK1 hP1 hD1 hS1 => ?_)
  have e : cA = cZ := by
    have h1 := (hK1.2 2 _ rfl).2
    have h2 := (hX.2.2.2.2.2.1.2 1 _ rfl).2
    exact Option.some.inj (h1.symm.trans h2)
  subst e
  exact k q H1 locs ls hP1 hD1 hS1 hl
end CWR
section CWP
variable {X : XT} {D : va_G} {cI cZ : ClassId} {d mc ms : Nat} {own : String} {cc : ByteArray} {nL : Nat} {nm : Bool} {pc : Nat} {L st : List Value} {ws : va_W} {kc ks : Nat}
theorem cpf_X0 (hX : CX X D cI cZ d mc ms own cc nL nm) {idx k q0 a : Nat} {fs : List Value} {v : Value} {ty : FieldType} (hk : k < 9) (hlk : Cond.fieldLink own idx "FlueRounds$Draft" (TX0 k).2.1 (TX0 k).2.2.1 ∈ gtbl) (hd : decode cc pc = .ok (.putfield idx, 3)) (hr1 : (TX0 k).1 = "FlueRounds$Draft") (he : ws[q0]? = some (a, .inr (0, fs))) (hfin : (TX0 k).2.2.2 = true) (hnm : nm = true) (hown2 : (TX0 k).1 = own) (hty : parseFieldDescriptor (TX0 k).2.2.1 = some ty) (hn : narrow ty v = v) (hfit : fits ty v = true) (hl0 : k < fs.length) (kk : CW X D (pc + 3) L st (ws.set q0 (a, .inr (0, fs.set k v))) kc ks) : CW X D pc L (v :: .ref a :: st) ws kc ks := by
  obtain ⟨p, l, e, R, s, m, args, below, meth, c, cells, slots, Q, A⟩ := X
  exact fun H locs ls hP hD hS hl => va_putF (D := D) (ci := 0) (C := RX0) (T := TX0) (N := 9) hX.1 hX.2.1 hX.2.2.2.2.1 inX0 tyX0 tyX0_ok nmX0 hX.2.2.2.1 hX.2.2.2.2.2.1 hP hD hS q0 he rfl k hk (hX.2.2.2.2.1 _ hlk) (fun x h => by rw [hr1] at h; exact h) hfin (hX.2.2.2.2.2.2.2.2.2.2.2 hnm) hown2 hty hn hfit hl0 hd (fun H1 locs1 hP1 hD1 hS1 => kk H1 locs1 ls hP1 hD1 hS1 hl)
theorem cpn_X0 (hX : CX X D cI cZ d mc ms own cc nL nm) {idx k q0 a : Nat} {fs : List Value} {v : Value} {ty : FieldType} (hk : k < 9) (hlk : Cond.fieldLink own idx "FlueRounds$Draft" (TX0 k).2.1 (TX0 k).2.2.1 ∈ gtbl) (hd : decode cc pc = .ok (.putfield idx, 3)) (hr1 : (TX0 k).1 = "FlueRounds$Draft") (he : ws[q0]? = some (a, .inr (0, fs))) (hfin : (TX0 k).2.2.2 = false) (hty : parseFieldDescriptor (TX0 k).2.2.1 = some ty) (hn : narrow ty v = v) (hfit : fits ty v = true) (hl0 : k < fs.length) (kk : CW X D (pc + 3) L st (ws.set q0 (a, .inr (0, fs.set k v))) kc ks) : CW X D pc L (v :: .ref a :: st) ws kc ks := by
  obtain ⟨p, l, e, R, s, m, args, below, meth, c, cells, slots, Q, A⟩ := X
  exact fun H locs ls hP hD hS hl => va_put (D := D) (ci := 0) (C := RX0) (T := TX0) (N := 9) hX.1 hX.2.1 hX.2.2.2.2.1 inX0 tyX0 tyX0_ok nmX0 hX.2.2.2.1 hX.2.2.2.2.2.1 hP hD hS q0 he rfl k hk (hX.2.2.2.2.1 _ hlk) (fun x h => by rw [hr1] at h; exact h) hfin hty hn hfit hl0 hd (fun H1 locs1 hP1 hD1 hS1 => kk H1 locs1 ls hP1 hD1 hS1 hl)
theorem cpf_X1 (hX : CX X D cI cZ d mc ms own cc nL nm) {idx k q0 a : Nat} {fs : List Value} {v : Value} {ty : FieldType} (hk : k < 3) (hlk : Cond.fieldLink own idx "FlueRounds$Fires" (TX1 k).2.1 (TX1 k).2.2.1 ∈ gtbl) (hd : decode cc pc = .ok (.putfield idx, 3)) (hr1 : (TX1 k).1 = "FlueRounds$Fires") (he : ws[q0]? = some (a, .inr (1, fs))) (hfin : (TX1 k).2.2.2 = true) (hnm : nm = true) (hown2 : (TX1 k).1 = own) (hty : parseFieldDescriptor (TX1 k).2.2.1 = some ty) (hn : narrow ty v = v) (hfit : fits ty v = true) (hl0 : k < fs.length) (kk : CW X D (pc + 3) L st (ws.set q0 (a, .inr (1, fs.set k v))) kc ks) : CW X D pc L (v :: .ref a :: st) ws kc ks := by
  obtain ⟨p, l, e, R, s, m, args, below, meth, c, cells, slots, Q, A⟩ := X
  exact fun H locs ls hP hD hS hl => va_putF (D := D) (ci := 1) (C := RX1) (T := TX1) (N := 3) hX.1 hX.2.1 hX.2.2.2.2.1 inX1 tyX1 tyX1_ok nmX1 hX.2.2.2.1 hX.2.2.2.2.2.1 hP hD hS q0 he rfl k hk (hX.2.2.2.2.1 _ hlk) (fun x h => by rw [hr1] at h; exact h) hfin (hX.2.2.2.2.2.2.2.2.2.2.2 hnm) hown2 hty hn hfit hl0 hd (fun H1 locs1 hP1 hD1 hS1 => kk H1 locs1 ls hP1 hD1 hS1 hl)
theorem cpn_X1 (hX : CX X D cI cZ d mc ms own cc nL nm) {idx k q0 a : Nat} {fs : List Value} {v : Value} {ty : FieldType} (hk : k < 3) (hlk : Cond.fieldLink own idx "FlueRounds$Fires" (TX1 k).2.1 (TX1 k).2.2.1 ∈ gtbl) (hd : decode cc pc = .ok (.putfield idx, 3)) (hr1 : (TX1 k).1 = "FlueRounds$Fires") (he : ws[q0]? = some (a, .inr (1, fs))) (hfin : (TX1 k).2.2.2 = false) (hty : parseFieldDescriptor (TX1 k).2.2.1 = some ty) (hn : narrow ty v = v) (hfit : fits ty v = true) (hl0 : k < fs.length) (kk : CW X D (pc + 3) L st (ws.set q0 (a, .inr (1, fs.set k v))) kc ks) : CW X D pc L (v :: .ref a :: st) ws kc ks := by
  obtain ⟨p, l, e, R, s, m, args, below, meth, c, cells, slots, Q, A⟩ := X
  exact fun H locs ls hP hD hS hl => va_put (D := D) (ci := 1) (C := RX1) (T := TX1) (N := 3) hX.1 hX.2.1 hX.2.2.2.2.1 inX1 tyX1 tyX1_ok nmX1 hX.2.2.2.1 hX.2.2.2.2.2.1 hP hD hS q0 he rfl k hk (hX.2.2.2.2.1 _ hlk) (fun x h => by rw [hr1] at h; exact h) hfin hty hn hfit hl0 hd (fun H1 locs1 hP1 hD1 hS1 => kk H1 locs1 ls hP1 hD1 hS1 hl)
theorem cpf_X2 (hX : CX X D cI cZ d mc ms own cc nL nm) {idx k q0 a : Nat} {fs : List Value} {v : Value} {ty : FieldType} (hk : k < 12) (hlk : Cond.fieldLink own idx "FlueRounds$Flues" (TX2 k).2.1 (TX2 k).2.2.1 ∈ gtbl) (hd : decode cc pc = .ok (.putfield idx, 3)) (hr1 : (TX2 k).1 = "FlueRounds$Flues") (he : ws[q0]? = some (a, .inr (2, fs))) (hfin : (TX2 k).2.2.2 = true) (hnm : nm = true) (hown2 : (TX2 k).1 = own) (hty : parseFieldDescriptor (TX2 k).2.2.1 = some ty) (hn : narrow ty v = v) (hfit : fits ty v = true) (hl0 : k < fs.length) (kk : CW X D (pc + 3) L st (ws.set q0 (a, .inr (2, fs.set k v))) kc ks) : CW X D pc L (v :: .ref a :: st) ws kc ks := by
  obtain ⟨p, l, e, R, s, m, args, below, meth, c, cells, slots, Q, A⟩ := X
  exact fun H locs ls hP hD hS hl => va_putF (D := D) (ci := 2) (C := RX2) (T := TX2) (N := 12) hX.1 hX.2.1 hX.2.2.2.2.1 inX2 tyX2 tyX2_ok nmX2 hX.2.2.2.1 hX.2.2.2.2.2.1 hP hD hS q0 he rfl k hk (hX.2.2.2.2.1 _ hlk) (fun x h => by rw [hr1] at h; exact h) hfin (hX.2.2.2.2.2.2.2.2.2.2.2 hnm) hown2 hty hn hfit hl0 hd (fun H1 locs1 hP1 hD1 hS1 => kk H1 locs1 ls hP1 hD1 hS1 hl)
theorem cpn_X2 (hX : CX X D cI cZ d mc ms own cc nL nm) {idx k q0 a : Nat} {fs : List Value} {v : Value} {ty : FieldType} (hk : k < 12) (hlk : Cond.fieldLink own idx "FlueRounds$Flues" (TX2 k).2.1 (TX2 k).2.2.1 ∈ gtbl) (hd : decode cc pc = .ok (.putfield idx, 3)) (hr1 : (TX2 k).1 = "FlueRounds$Flues") (he : ws[q0]? = some (a, .inr (2, fs))) (hfin : (TX2 k).2.2.2 = false) (hty : parseFieldDescriptor (TX2 k).2.2.1 = some ty) (hn : narrow ty v = v) (hfit : fits ty v = true) (hl0 : k < fs.length) (kk : CW X D (pc + 3) L st (ws.set q0 (a, .inr (2, fs.set k v))) kc ks) : CW X D pc L (v :: .ref a :: st) ws kc ks := by
  obtain ⟨p, l, e, R, s, m, args, below, meth, c, cells, slots, Q, A⟩ := X
  exact fun H locs ls hP hD hS hl => va_put (D := D) (ci := 2) (C := RX2) (T := TX2) (N := 12) hX.1 hX.2.1 hX.2.2.2.2.1 inX2 tyX2 tyX2_ok nmX2 hX.2.2.2.1 hX.2.2.2.2.2.1 hP hD hS q0 he rfl k hk (hX.2.2.2.2.1 _ hlk) (fun x h => by rw [hr1] at h; exact h) hfin hty hn hfit hl0 hd (fun H1 locs1 hP1 hD1 hS1 => kk H1 locs1 ls hP1 hD1 hS1 hl)
theorem cpf_X3 (hX : CX X D cI cZ d mc ms own cc nL nm) {idx k q0 a : Nat} {fs : List Value} {v : Value} {ty : FieldType} (hk : k < 6) (hlk : Cond.fieldLink own idx "FlueRounds$LawBook" (TX3 k).2.1 (TX3 k).2.2.1 ∈ gtbl) (hd : decode cc pc = .ok (.putfield idx, 3)) (hr1 : (TX3 k).1 = "FlueRounds$LawBook") (he : ws[q0]? = some (a, .inr (3, fs))) (hfin : (TX3 k).2.2.2 = true) (hnm : nm = true) (hown2 : (TX3 k).1 = own) (hty : parseFieldDescriptor (TX3 k).2.2.1 = some ty) (hn : narrow ty v = v) (hfit : fits ty v = true) (hl0 : k < fs.length) (kk : CW X D (pc + 3) L st (ws.set q0 (a, .inr (3, fs.set k v))) kc ks) : CW X D pc L (v :: .ref a :: st) ws kc ks := by
  obtain ⟨p, l, e, R, s, m, args, below, meth, c, cells, slots, Q, A⟩ := X
  exact fun H locs ls hP hD hS hl => va_putF (D := D) (ci := 3) (C := RX3) (T := TX3) (N := 6) hX.1 hX.2.1 hX.2.2.2.2.1 inX3 tyX3 tyX3_ok nmX3 hX.2.2.2.1 hX.2.2.2.2.2.1 hP hD hS q0 he rfl k hk (hX.2.2.2.2.1 _ hlk) (fun x h => by rw [hr1] at h; exact h) hfin (hX.2.2.2.2.2.2.2.2.2.2.2 hnm) hown2 hty hn hfit hl0 hd (fun H1 locs1 hP1 hD1 hS1 => kk H1 locs1 ls hP1 hD1 hS1 hl)
theorem cpn_X3 (hX : CX X D cI cZ d mc ms own cc nL nm) {idx k q0 a : Nat} {fs : List Value} {v : Value} {ty : FieldType} (hk : k < 6) (hlk : Cond.fieldLink own idx "FlueRounds$LawBook" (TX3 k).2.1 (TX3 k).2.2.1 ∈ gtbl) (hd : decode cc pc = .ok (.putfield idx, 3)) (hr1 : (TX3 k).1 = "FlueRounds$LawBook") (he : ws[q0]? = some (a, .inr (3, fs))) (hfin : (TX3 k).2.2.2 = false) (hty : parseFieldDescriptor (TX3 k).2.2.1 = some ty) (hn : narrow ty v = v) (hfit : fits ty v = true) (hl0 : k < fs.length) (kk : CW X D (pc + 3) L st (ws.set q0 (a, .inr (3, fs.set k v))) kc ks) : CW X D pc L (v :: .ref a :: st) ws kc ks := by
  obtain ⟨p, l, e, R, s, m, args, below, meth, c, cells, slots, Q, A⟩ := X
  exact fun H locs ls hP hD hS hl => va_put (D := D) (ci := 3) (C := RX3) (T := TX3) (N := 6) hX.1 hX.2.1 hX.2.2.2.2.1 inX3 tyX3 tyX3_ok nmX3 hX.2.2.2.1 hX.2.2.2.2.2.1 hP hD hS q0 he rfl k hk (hX.2.2.2.2.1 _ hlk) (fun x h => by rw [hr1] at h; exact h) hfin hty hn hfit hl0 hd (fun H1 locs1 hP1 hD1 hS1 => kk H1 locs1 ls hP1 hD1 hS1 hl)
theorem cpf_X4 (hX : CX X D cI cZ d mc ms own cc nL nm) {idx k q0 a : Nat} {fs : List Value} {v : Value} {ty : FieldType} (hk : k < 5) (hlk : Cond.fieldLink own idx "FlueRounds$Looks" (TX4 k).2.1 (TX4 k).2.2.1 ∈ gtbl) (hd : decode cc pc = .ok (.putfield idx, 3)) (hr1 : (TX4 k).1 = "FlueRounds$Looks") (he : ws[q0]? = some (a, .inr (4, fs))) (hfin : (TX4 k).2.2.2 = true) (hnm : nm = true) (hown2 : (TX4 k).1 = own) (hty : parseFieldDescriptor (TX4 k).2.2.1 = some ty) (hn : narrow ty v = v) (hfit : fits ty v = true) (hl0 : k < fs.length) (kk : CW X D (pc + 3) L st (ws.set q0 (a, .inr (4, fs.set k v))) kc ks) : CW X D pc L (v :: .ref a :: st) ws kc ks := by
  obtain ⟨p, l, e, R, s, m, args, below, meth, c, cells, slots, Q, A⟩ := X
  exact fun H locs ls hP hD hS hl => va_putF (D := D) (ci := 4) (C := RX4) (T := TX4) (N := 5) hX.1 hX.2.1 hX.2.2.2.2.1 inX4 tyX4 tyX4_ok nmX4 hX.2.2.2.1 hX.2.2.2.2.2.1 hP hD hS q0 he rfl k hk (hX.2.2.2.2.1 _ hlk) (fun x h => by rw [hr1] at h; exact h) hfin (hX.2.2.2.2.2.2.2.2.2.2.2 hnm) hown2 hty hn hfit hl0 hd (fun H1 locs1 hP1 hD1 hS1 => kk H1 locs1 ls hP1 hD1 hS1 hl)
theorem cpn_X4 (hX : CX X D cI cZ d mc ms own cc nL nm) {idx k q0 a : Nat} {fs : List Value} {v : Value} {ty : FieldType} (hk : k < 5) (hlk : Cond.fieldLink own idx "FlueRounds$Looks" (TX4 k).2.1 (TX4 k).2.2.1 ∈ gtbl) (hd : decode cc pc = .ok (.putfield idx, 3)) (hr1 : (TX4 k).1 = "FlueRounds$Looks") (he : ws[q0]? = some (a, .inr (4, fs))) (hfin : (TX4 k).2.2.2 = false) (hty : parseFieldDescriptor (TX4 k).2.2.1 = some ty) (hn : narrow ty v = v) (hfit : fits ty v = true) (hl0 : k < fs.length) (kk : CW X D (pc + 3) L st (ws.set q0 (a, .inr (4, fs.set k v))) kc ks) : CW X D pc L (v :: .ref a :: st) ws kc ks := by
  obtain ⟨p, l, e, R, s, m, args, below, meth, c, cells, slots, Q, A⟩ := X
  exact fun H locs ls hP hD hS hl => va_put (D := D) (ci := 4) (C := RX4) (T := TX4) (N := 5) hX.1 hX.2.1 hX.2.2.2.2.1 inX4 tyX4 tyX4_ok nmX4 hX.2.2.2.1 hX.2.2.2.2.2.1 hP hD hS q0 he rfl k hk (hX.2.2.2.2.1 _ hlk) (fun x h => by rw [hr1] at h; exact h) hfin hty hn hfit hl0 hd (fun H1 locs1 hP1 hD1 hS1 => kk H1 locs1 ls hP1 hD1 hS1 hl)
theorem cpf_X5 (hX : CX X D cI cZ d mc ms own cc nL nm) {idx k q0 a : Nat} {fs : List Value} {v : Value} {ty : FieldType} (hk : k < 5) (hlk : Cond.fieldLink own idx "FlueRounds$Sweeps" (TX5 k).2.1 (TX5 k).2.2.1 ∈ gtbl) (hd : decode cc pc = .ok (.putfield idx, 3)) (hr1 : (TX5 k).1 = "FlueRounds$Sweeps") (he : ws[q0]? = some (a, .inr (5, fs))) (hfin : (TX5 k).2.2.2 = true) (hnm : nm = true) (hown2 : (TX5 k).1 = own) (hty : parseFieldDescriptor (TX5 k).2.2.1 = some ty) (hn : narrow ty v = v) (hfit : fits ty v = true) (hl0 : k < fs.length) (kk : CW X D (pc + 3) L st (ws.set q0 (a, .inr (5, fs.set k v))) kc ks) : CW X D pc L (v :: .ref a :: st) ws kc ks := by
  obtain ⟨p, l, e, R, s, m, args, below, meth, c, cells, slots, Q, A⟩ := X
  exact fun H locs ls hP hD hS hl => va_putF (D := D) (ci := 5) (C := RX5) (T := TX5) (N := 5) hX.1 hX.2.1 hX.2.2.2.2.1 inX5 tyX5 tyX5_ok nmX5 hX.2.2.2.1 hX.2.2.2.2.2.1 hP hD hS q0 he rfl k hk (hX.2.2.2.2.1 _ hlk) (fun x h => by rw [hr1] at h; exact h) hfin (hX.2.2.2.2.2.2.2.2.2.2.2 hnm) hown2 hty hn hfit hl0 hd (fun H1 locs1 hP1 hD1 hS1 => kk H1 locs1 ls hP1 hD1 hS1 hl)
theorem cpn_X5 (hX : CX X D cI cZ d mc ms own cc nL nm) {idx k q0 a : Nat} {fs : List Value} {v : Value} {ty : FieldType} (hk : k < 5) (hlk : Cond.fieldLink own idx "FlueRounds$Sweeps" (TX5 k).2.1 (TX5 k).2.2.1 ∈ gtbl) (hd : decode cc pc = .ok (.putfield idx, 3)) (hr1 : (TX5 k).1 = "FlueRounds$Sweeps") (he : ws[q0]? = some (a, .inr (5, fs))) (hfin : (TX5 k).2.2.2 = false) (hty : parseFieldDescriptor (TX5 k).2.2.1 = some ty) (hn : narrow ty v = v) (hfit : fits ty v = true) (hl0 : k < fs.length) (kk : CW X D (pc + 3) L st (ws.set q0 (a, .inr (5, fs.set k v))) kc ks) : CW X D pc L (v :: .ref a :: st) ws kc ks := by
  obtain ⟨p, l, e, R, s, m, args, below, meth, c, cells, slots, Q, A⟩ := X
  exact fun H locs ls hP hD hS hl => va_put (D := D) (ci := 5) (C := RX5) (T := TX5) (N := 5) hX.1 hX.2.1 hX.2.2.2.2.1 inX5 tyX5 tyX5_ok nmX5 hX.2.2.2.1 hX.2.2.2.2.2.1 hP hD hS q0 he rfl k hk (hX.2.2.2.2.1 _ hlk) (fun x h => by rw [hr1] at h; exact h) hfin hty hn hfit hl0 hd (fun H1 locs1 hP1 hD1 hS1 => kk H1 locs1 ls hP1 hD1 hS1 hl)
theorem cpf_X6 (hX : CX X D cI cZ d mc ms own cc nL nm) {idx k q0 a : Nat} {fs : List Value} {v : Value} {ty : FieldType} (hk : k < 8) (hlk : Cond.fieldLink own idx "FlueRounds$Tour" (TX6 k).2.1 (TX6 k).2.2.1 ∈ gtbl) (hd : decode cc pc = .ok (.putfield idx, 3)) (hr1 : (TX6 k).1 = "FlueRounds$Tour") (he : ws[q0]? = some (a, .inr (6, fs))) (hfin : (TX6 k).2.2.2 = true) (hnm : nm = true) (hown2 : (TX6 k).1 = own) (hty : parseFieldDescriptor (TX6 k).2.2.1 = some ty) (hn : narrow ty v = v) (hfit : fits ty v = true) (hl0 : k < fs.length) (kk : CW X D (pc + 3) L st (ws.set q0 (a, .inr (6, fs.set k v))) kc ks) : CW X D pc L (v :: .ref a :: st) ws kc ks := by
  obtain ⟨p, l, e, R, s, m, args, below, meth, c, cells, slots, Q, A⟩ := X
  exact fun H locs ls hP hD hS hl => va_putF (D := D) (ci := 6) (C := RX6) (T := TX6) (N := 8) hX.1 hX.2.1 hX.2.2.2.2.1 inX6 tyX6 tyX6_ok nmX6 hX.2.2.2.1 hX.2.2.2.2.2.1 hP hD hS q0 he rfl k hk (hX.2.2.2.2.1 _ hlk) (fun x h => by rw [hr1] at h; exact h) hfin (hX.2.2.2.2.2.2.2.2.2.2.2 hnm) hown2 hty hn hfit hl0 hd (fun H1 locs1 hP1 hD1 hS1 => kk H1 locs1 ls hP1 hD1 hS1 hl)
theorem cpn_X6 (hX : CX X D cI cZ d mc ms own cc nL nm) {idx k q0 a : Nat} {fs : List Value} {v : Value} {ty : FieldType} (hk : k < 8) (hlk : Cond.fieldLink own idx "FlueRounds$Tour" (TX6 k).2.1 (TX6 k).2.2.1 ∈ gtbl) (hd : decode cc pc = .ok (.putfield idx, 3)) (hr1 : (TX6 k).1 = "FlueRounds$Tour") (he : ws[q0]? = some (a, .inr (6, fs))) (hfin : (TX6 k).2.2.2 = false) (hty : parseFieldDescriptor (TX6 k).2.2.1 = some ty) (hn : narrow ty v = v) (hfit : fits ty v = true) (hl0 : k < fs.length) (kk : CW X D (pc + 3) L st (ws.set q0 (a, .inr (6, fs.set k v))) kc ks) : CW X D pc L (v :: .ref a :: st) ws kc ks := by
  obtain ⟨p, l, e, R, s, m, args, below, meth, c, cells, slots, Q, A⟩ := X
  exact fun H locs ls hP hD hS hl => va_put (D := D) (ci := 6) (C := RX6) (T := TX6) (N := 8) hX.1 hX.2.1 hX.2.2.2.2.1 inX6 tyX6 tyX6_ok nmX6 hX.2.2.2.1 hX.2.2.2.2.2.1 hP hD hS q0 he rfl k hk (hX.2.2.2.2.1 _ hlk) (fun x h => by rw [hr1] at h; exact h) hfin hty hn hfit hl0 hd (fun H1 locs1 hP1 hD1 hS1 => kk H1 locs1 ls hP1 hD1 hS1 hl)
theorem cpf_X7 (hX : CX X D cI cZ d mc ms own cc nL nm) {idx k q0 a : Nat} {fs : List Value} {v : Value} {ty : FieldType} (hk : k < 11) (hlk : Cond.fieldLink own idx "FlueRounds" (TX7 k).2.1 (TX7 k).2.2.1 ∈ gtbl) (hd : decode cc pc = .ok (.putfield idx, 3)) (hr1 : (TX7 k).1 = "FlueRounds") (he : ws[q0]? = some (a, .inr (7, fs))) (hfin : (TX7 k).2.2.2 = true) (hnm : nm = true) (hown2 : (TX7 k).1 = own) (hty : parseFieldDescriptor (TX7 k).2.2.1 = some ty) (hn : narrow ty v = v) (hfit : fits ty v = true) (hl0 : k < fs.length) (kk : CW X D (pc + 3) L st (ws.set q0 (a, .inr (7, fs.set k v))) kc ks) : CW X D pc L (v :: .ref a :: st) ws kc ks := by
  obtain ⟨p, l, e, R, s, m, args, below, meth, c, cells, slots, Q, A⟩ := X
  exact fun H locs ls hP hD hS hl => va_putF (D := D) (ci := 7) (C := RX7) (T := TX7) (N := 11) hX.1 hX.2.1 hX.2.2.2.2.1 inX7 tyX7 tyX7_ok nmX7 hX.2.2.2.1 hX.2.2.2.2.2.1 hP hD hS q0 he rfl k hk (hX.2.2.2.2.1 _ hlk) (fun x h => by rw [hr1] at h; exact h) hfin (hX.2.2.2.2.2.2.2.2.2.2.2 hnm) hown2 hty hn hfit hl0 hd (fun H1 locs1 hP1 hD1 hS1 => kk H1 locs1 ls hP1 hD1 hS1 hl)
theorem cpn_X7 (hX : CX X D cI cZ d mc ms own cc nL nm) {idx k q0 a : Nat} {fs : List Value} {v : Value} {ty : FieldType} (hk : k < 11) (hlk : Cond.fieldLink own idx "FlueRounds" (TX7 k).2.1 (TX7 k).2.2.1 ∈ gtbl) (hd : decode cc pc = .ok (.putfield idx, 3)) (hr1 : (TX7 k).1 = "FlueRounds") (he : ws[q0]? = some (a, .inr (7, fs))) (hfin : (TX7 k).2.2.2 = false) (hty : parseFieldDescriptor (TX7 k).2.2.1 = some ty) (hn : narrow ty v = v) (hfit : fits ty v = true) (hl0 : k < fs.length) (kk : CW X D (pc + 3) L st (ws.set q0 (a, .inr (7, fs.set k v))) kc ks) : CW X D pc L (v :: .ref a :: st) ws kc ks := by
  obtain ⟨p, l, e, R, s, m, args, below, meth, c, cells, slots, Q, A⟩ := X
  exact fun H locs ls hP hD hS hl => va_put (D := D) (ci := 7) (C := RX7) (T := TX7) (N := 11) hX.1 hX.2.1 hX.2.2.2.2.1 inX7 tyX7 tyX7_ok nmX7 hX.2.2.2.1 hX.2.2.2.2.2.1 hP hD hS q0 he rfl k hk (hX.2.2.2.2.1 _ hlk) (fun x h => by rw [hr1] at h; exact h) hfin hty hn hfit hl0 hd (fun H1 locs1 hP1 hD1 hS1 => kk H1 locs1 ls hP1 hD1 hS1 hl)
theorem cpf_X8 (hX : CX X D cI cZ d mc ms own cc nL nm) {idx k q0 a : Nat} {fs : List Value} {v : Value} {ty : FieldType} (hk : k < 27) (hlk : Cond.fieldLink own idx "FlueRoundsModel" (TX8 k).2.1 (TX8 k).2.2.1 ∈ gtbl) (hd : decode cc pc = .ok (.putfield idx, 3)) (hr1 : (TX8 k).1 = "FlueRoundsModel") (he : ws[q0]? = some (a, .inr (8, fs))) (hfin : (TX8 k).2.2.2 = true) (hnm : nm = true) (hown2 : (TX8 k).1 = own) (hty : parseFieldDescriptor (TX8 k).2.2.1 = some ty) (hn : narrow ty v = v) (hfit : fits ty v = true) (hl0 : k < fs.length) (kk : CW X D (pc + 3) L st (ws.set q0 (a, .inr (8, fs.set k v))) kc ks) : CW X D pc L (v :: .ref a :: st) ws kc ks := by
  obtain ⟨p, l, e, R, s, m, args, below, meth, c, cells, slots, Q, A⟩ := X
  exact fun H locs ls hP hD hS hl => va_putF (D := D) (ci := 8) (C := RX8) (T := TX8) (N := 27) hX.1 hX.2.1 hX.2.2.2.2.1 inX8 tyX8 tyX8_ok nmX8 hX.2.2.2.1 hX.2.2.2.2.2.1 hP hD hS q0 he rfl k hk (hX.2.2.2.2.1 _ hlk) (fun x h => by rw [hr1] at h; exact h) hfin (hX.2.2.2.2.2.2.2.2.2.2.2 hnm) hown2 hty hn hfit hl0 hd (fun H1 locs1 hP1 hD1 hS1 => kk H1 locs1 ls hP1 hD1 hS1 hl)
theorem cpn_X8 (hX : CX X D cI cZ d mc ms own cc nL nm) {idx k q0 a : Nat} {fs : List Value} {v : Value} {ty : FieldType} (hk : k < 27) (hlk : Cond.fieldLink own idx "FlueRoundsModel" (TX8 k).2.1 (TX8 k).2.2.1 ∈ gtbl) (hd : decode cc pc = .ok (.putfield idx, 3)) (hr1 : (TX8 k).1 = "FlueRoundsModel") (he : ws[q0]? = some (a, .inr (8, fs))) (hfin : (TX8 k).2.2.2 = false) (hty : parseFieldDescriptor (TX8 k).2.2.1 = some ty) (hn : narrow ty v = v) (hfit : fits ty v = true) (hl0 : k < fs.length) (kk : CW X D (pc + 3) L st (ws.set q0 (a, .inr (8, fs.set k v))) kc ks) : CW X D pc L (v :: .ref a :: st) ws kc ks := by
  obtain ⟨p, l, e, R, s, m, args, below, meth, c, cells, slots, Q, A⟩ := X
  exact fun H locs ls hP hD hS hl => va_put (D := D) (ci := 8) (C := RX8) (T := TX8) (N := 27) hX.1 hX.2.1 hX.2.2.2.2.1 inX8 tyX8 tyX8_ok nmX8 hX.2.2.2.1 hX.2.2.2.2.2.1 hP hD hS q0 he rfl k hk (hX.2.2.2.2.1 _ hlk) (fun x h => by rw [hr1] at h; exact h) hfin hty hn hfit hl0 hd (fun H1 locs1 hP1 hD1 hS1 => kk H1 locs1 ls hP1 hD1 hS1 hl)
end CWP
/-- a constructor's contract: from a fresh object at h0 it makes the cells of fin h0 q, wherever they come -/
def CtM {α : Type} (D : va_G) (cI cZ : ClassId) (NW : State → Prop) (d mc ms : Nat) (y : MethodName) (cc : ByteArray) (ci : Nat) (fs0 : List Value) (fin : Nat → α → va_W) : Prop :=
  ∀ (l : Launch) (sz h0 : Nat), Met l y (.code y cc 1 none :: gtbl) { frames := d, cells := mc, slots := ms, locals := 64 * d } (va_Pc [.ref h0] (fun U => U.heap.size = sz ∧ va_P D vwCl [(h0, .inr (ci, fs0))] U.heap ∧ va_K D vwCl (cty cI cZ) U ∧ NW U)) (fun _ st oc t => oc = .returned none ∧ (∃ q : α, va_P D vwCl (fin h0 q) t.heap ∧ va_D (va_A [(h0, .inr (ci, fs0))] sz) (fin h0 q)) ∧ va_F (va_A [(h0, .inr (ci, fs0))] sz) st t) mc ms (va_A [(h0, .inr (ci, fs0))] sz)
theorem ctm_of {α : Type} {D : va_G} {cI cZ : ClassId} {NW : State → Prop} {d mc ms : Nat} {y : MethodName} {cc : ByteArray} {ci : Nat} {fs0 : List Value} {fin : Nat → α → va_W} (hy : plainName y.cls = true) (hnm : y.name = "<init>")
    (body : ∀ (X : XT) (h0 : Nat), NW X.2.2.2.2.1 → CX X D cI cZ d mc ms y.cls cc 1 true → (∀ (pc : Nat) (L : List Value) (q : α), decode cc pc = .ok (.return_, 1) → CW X D pc L [] (fin h0 q) mc ms) → CW X D 0 [.ref h0] [] [(h0, .inr (ci, fs0))] 0 0) : CtM D cI cZ NW (d + 1) mc ms y cc ci fs0 fin := by
  intro l sz h0
  refine Met.ofW (cc := cc) (maxL := 1) (ret := none) hy rfl ?_
  intro p e s m args below meth c s₁ B hml hv
  obtain ⟨rfl, hsz0, hP, hK, hN⟩ := hv
  subst hsz0
  have hts := atoms_spec (ws := .code y cc 1 none :: gtbl) B.pre
  have hlocks := B.notSynchronized
  have hin : meth.name = "<init>" := (name_of_methodNamed B.named B.method).1.trans hnm
  have hDt : va_D (fun _ => True) [(h0, (.inr (ci, fs0) : va_E))] := by
    refine ⟨fun i j x y hi hj _ => ?_, fun _ _ _ => trivial⟩
    have h1 : i < 1 := (List.getElem?_eq_some_iff.mp hi).1
    have h2 : j < 1 := (List.getElem?_eq_some_iff.mp hj).1
    omega
  have hD := hDt.self (sz := s.heap.size)
  rw [lg_entry_eq]
  refine body (p, l, e, _, s, m, ([.ref h0] : List Value).toArray, below, meth, c, 0, 0, MQ below _ ([.ref h0] : List Value).toArray s mc ms (va_A [(h0, .inr (ci, fs0))] s.heap.size), va_A [(h0, .inr (ci, fs0))] s.heap.size) h0 hN ⟨B.exec, B.bytes, hml, findClass_of_methodNamed B.named, fun w hw => hts w (List.mem_cons_of_mem _ hw), hK, fun q h => Or.inr h, Nat.le_refl _, Nat.le_refl _, Nat.le_refl _, Nat.le_refl _, fun _ => hin⟩ ?_ s.heap [] _ hP hD va_S.rf (by rw [hml]; exact hasL.entry [.ref h0] (by simp [lg_sl, Value.category]) (fun i v h => by have := entL_in [.ref h0] 0 1 i v h; rwa [Nat.zero_add] at this))
  intro pc L q hdg H locs ls hP hD hS hl
  exact W.vret B.exec B.bytes B.returns (fun t ht hW => ⟨rfl, ⟨q, by rw [ht]; exact hP, hD⟩, hS.F ht⟩) hS.2.2 hdg
/-- behind a constructor's call: what was made beside the rest -/
theorem cw_join {D : va_G} {A : Nat → Prop} {ws w1 : va_W} {h : Nat} {e0 : va_E} {H H1 H0 : Heap} {locs : List Loc} (hP : va_P D vwCl (ws ++ [(h, e0)]) H) (hD : va_D A (ws ++ [(h, e0)])) (hS : va_S A H0 H locs) (hA : ∀ q : Nat, H0.size ≤ q → A q)
    (hk : ∀ q : Nat, q < H.size → ¬ va_A [(h, e0)] H.size q → H1[q]? = H[q]?) (hP1 : va_P D vwCl w1 H1) (hD1 : va_D (va_A [(h, e0)] H.size) w1) : va_P D vwCl (ws ++ w1) H1 ∧ va_D A (ws ++ w1) ∧ ∀ q, va_A [(h, e0)] H.size q → A q := by
  have hlast : (ws ++ [(h, e0)])[ws.length]? = some (h, e0) := by simp
  have hAh : A h := hD.2 _ _ hlast
  have hsub : ∀ q, va_A [(h, e0)] H.size q → A q := by
    intro q hq
    rcases hq with ⟨k, e, hq⟩ | hq
    · have hk0 : k < 1 := (List.getElem?_eq_some_iff.mp hq).1
      rw [show k = 0 by omega] at hq
      cases hq
      exact hAh
    · exact hA q (Nat.le_trans hS.1 hq)
  have hin : ∀ (i : Nat) (x : Nat × va_E), ws[i]? = some x → (ws ++ [(h, e0)])[i]? = some x ∧ i < ws.length := by
    intro i x hx
    have hl := (List.getElem?_eq_some_iff.mp hx).1
    exact ⟨by rw [List.getElem?_append_left hl]; exact hx, hl⟩
  have apart : ∀ (i : Nat) (x : Nat × va_E), ws[i]? = some x → x.1 < H.size ∧ ¬ va_A [(h, e0)] H.size x.1 := by
    intro i x hx
    obtain ⟨h1, h2⟩ := hin i x hx
    have hlt := (hP i x h1).lt
    refine ⟨hlt, fun z => ?_⟩
    rcases z with ⟨k, e, z⟩ | z
    · have hk0 : k < 1 := (List.getElem?_eq_some_iff.mp z).1
      rw [show k = 0 by omega] at z
      have e1 : h = x.1 := congrArg Prod.fst (Option.some.inj z)
      have := hD.1 i ws.length x (h, e0) h1 hlast e1.symm
      omega
    · omega
  refine ⟨va_P.app (fun i x hx => ?_) hP1, va_D.app ⟨fun i j x y hx hy hxy => ?_, fun i x hx => ?_⟩ (hD1.weaken (fun k q _ h => hsub q.1 h)) (fun i j x y hx hy hxy => ?_), hsub⟩
  · obtain ⟨g1, g2⟩ := apart i x hx
    exact (hP i x (hin i x hx).1).kept (hk x.1 g1 g2)
  · exact hD.1 i j x y (hin i x hx).1 (hin j y hy).1 hxy
  · exact hD.2 i x (hin i x hx).1
  · exact (apart i x hx).2 (by rw [hxy]; exact hD1.2 j y hy)
theorem ct_blind {D : va_G} {cI cZ : ClassId} {NW : State → Prop} {sz h0 ci : Nat} {fs0 : List Value} (hNb : ∀ u U : State, u.vm = U.vm → NW u → NW U) : FrameBlind (va_Pc [.ref h0] (fun U => U.heap.size = sz ∧ va_P D vwCl [(h0, .inr (ci, fs0))] U.heap ∧ va_K D vwCl (cty cI cZ) U ∧ NW U)) := by
  intro a U g mk q
  obtain ⟨q0, q1, qP, qK, qN⟩ := q
  exact ⟨q0, q1, qP, va_K.moved (u := U) (U := U.calling g mk a) (Vm.Alike.refl U.vm) qK, hNb U (U.calling g mk a) rfl qN⟩
def KC (y : MethodName) (cc : ByteArray) : Prop := Cond.initialized y.cls ∈ gtbl ∧ Cond.code y cc 1 none ∈ gtbl ∧ (y.cls ≠ "java/lang/invoke/MethodHandle" ∧ y.cls ≠ "java/lang/invoke/VarHandle" ∧ (parseMethodDescriptor y.desc).map (fun d => d.parameters.length) = some 0) ∧ y.name = "<init>" ∧ Cond.instanceMethod y ∈ gtbl
theorem kc_good {y : MethodName} {cc : ByteArray} (h : KC y cc) : GoodIn gtbl (.code y cc 1 none :: gtbl) := by
  intro w hw
  have hm : w ∈ gtbl := by
    rcases List.mem_cons.mp hw with rfl | hw
    · exact h.2.1
    · exact hw
  exact ⟨hm, good_of_word (tbl_good w hm)⟩
theorem ct_go {α : Type} {D : va_G} {p : Program} {l : Launch} {e : Env} {R : Room} {s : State} {m : MethodId} {args : Array Value} {below : List Frame} {meth : Method} {c : Code} {H : Heap} {locs : List Loc} {kc ks mc ms : Nat} {Q : State → Prop} {A : Nat → Prop} {ls : Array Slot} {a : Array Value} {pc ci h : Nat} {st0 rest : List Value} {fs0 : List Value} {ws : va_W} {fin : Nat → α → va_W}
    (hr : va_Run p l e R s m args below meth c H locs kc ks mc ms (F0 m pc ls st0) rest ((fun _ st oc t => oc = .returned none ∧ (∃ q : α, va_P D vwCl (fin h q) t.heap ∧ va_D (va_A [(h, .inr (ci, fs0))] H.size) (fin h q)) ∧ va_F (va_A [(h, .inr (ci, fs0))] H.size) st t : Array Value → State → Outcome → State → Prop) a) (va_A [(h, .inr (ci, fs0))] H.size))
    (hP : va_P D vwCl (ws ++ [(h, .inr (ci, fs0))]) H) (hD : va_D A (ws ++ [(h, .inr (ci, fs0))])) (hS : va_S A s.heap H locs) (hA : ∀ q : Nat, s.heap.size ≤ q → A q)
    (kk : ∀ (q : α) (H1 : Heap) (locs1 : List Loc), va_P D vwCl (ws ++ fin h q) H1 → va_D A (ws ++ fin h q) → va_S A s.heap H1 locs1 → W p l e R s m args below meth c H1 locs1 (kc + mc) (ks + ms) Q (F0 m (pc + 3) ls rest)) : W p l e R s m args below meth c H locs kc ks Q (F0 m pc ls st0) := by
  intro T hT X
  obtain ⟨v, st₀, t, T', L, h0, X', hL, e1, e2, ⟨hv, ⟨q, hP1, hD1⟩, hz, hk⟩, st⟩ := hr T hT X
  cases hv
  rw [h0] at hz hk
  obtain ⟨j1, j2, hsub⟩ := cw_join hP hD hS hA hk hP1 hD1
  obtain ⟨t2, a1, b1⟩ := kk q T'.heap (locs ++ L) (by rw [e1]; exact j1) j2
    ⟨Nat.le_trans hS.1 (by rw [e1]; exact hz), fun x h1 h2 => by rw [e1, hk x (Nat.lt_of_lt_of_le h1 hS.1) (fun z => h2 (hsub x z))]; exact hS.2.1 x h1 h2, fun x hx => by
      rcases List.mem_append.mp hx with h | h
      · exact hS.2.2 x h
      · exact hsub _ (hL x h)⟩ T' rfl X'
  exact ⟨t2, st t2 a1, b1⟩
theorem cw_nf {X : XT} {D : va_G} {pc : Nat} {L st : List Value} {ws ws' : va_W} {kc ks kc' ks' : Nat} (h : ws = ws') (h1 : kc = kc') (h2 : ks = ks') (k : CW X D pc L st ws' kc' ks') : CW X D pc L st ws kc ks := by subst h; subst h1; subst h2; exact k
section CWC
variable {X : XT} {D : va_G} {cI cZ : ClassId} {d mc ms : Nat} {own : String} {cc : ByteArray} {nL : Nat} {nm : Bool} {pc : Nat} {L st : List Value} {ws : va_W} {kc ks : Nat}
theorem cw_new (hX : CX X D cI cZ d mc ms own cc nL nm) {C : String} {T : u_T} {N ci idx : Nat} {fs : List Value} (hin : ∀ w ∈ u_ws C T N, w ∈ gtbl) (ty : Nat → FieldType) (hty : ∀ k, k < N → parseFieldDescriptor (T k).2.2.1 = some (ty k)) (hkl : Cond.classLink own idx C ∈ gtbl) (hia : Cond.instantiable C N ∈ gtbl) (hini : Cond.initialized C ∈ gtbl) (hc : vwCl[ci]? = some (C, T, N)) (hfs : ∀ j, j < N → defaultValue (ty j) = vp_V fs j) (hd : decode cc pc = .ok (.new idx, 3)) (h1 : kc + 1 ≤ mc) (h2 : ks + N ≤ ms) (k : ∀ q : Nat, CW X D (pc + 3) L (.ref q :: st) (ws ++ [(q, .inr (ci, fs))]) (kc + 1) (ks + N)) : CW X D pc L st ws kc ks := by
  obtain ⟨p, l, e, R, s, m, args, below, meth, c, cells, slots, Q, A⟩ := X
  exact fun H locs ls hP hD hS hl => va_new (ci := ci) hX.1 hX.2.1 hX.2.2.2.2.1 hin ty hty hX.2.2.2.1 (hX.2.2.2.2.1 _ hkl) (hX.2.2.2.2.1 _ hia) (hX.2.2.2.2.1 _ hini) hX.2.2.2.2.2.1 hP hD hS hX.2.2.2.2.2.2.1 hc hfs (by have := hX.2.2.2.2.2.2.2.2.2.1; omega) (by have := hX.2.2.2.2.2.2.2.2.2.2.1; omega) hd (fun q H1 hP1 hD1 hS1 => k q H1 locs ls hP1 hD1 hS1 hl)
theorem cw_initN {α : Type} (hX : CX X D cI cZ d mc ms own cc nL nm) {y : MethodName} {cc2 : ByteArray} {ci h idx mc2 ms2 : Nat} {host : String} {fs0 : List Value} {fin : Nat → α → va_W} (hM : CtM D cI cZ (fun _ => True) d mc2 ms2 y cc2 ci fs0 fin) (hkc : KC y cc2) (hnw : va_Nw (.methodLinkNest own idx y host) X.2.2.2.2.1) (hd : decode cc pc = .ok (.invokespecial idx, 3)) (hst : (st.map fun v => v.category).sum ≤ 8) (h1 : kc + mc2 ≤ mc) (h2 : ks + ms2 ≤ ms) (k : ∀ q : α, CW X D (pc + 3) L st (ws ++ fin h q) (kc + mc2) (ks + ms2)) : CW X D pc L (.ref h :: st) (ws ++ [(h, .inr (ci, fs0))]) kc ks := by
  obtain ⟨p, l, e, R, s, m, args, below, meth, c, cells, slots, Q, A⟩ := X
  intro H locs ls hP hD hS hl
  obtain ⟨hx, hb, hnl, hown, hts, hK, hA, hfr, hlo, hce, hsl, hname⟩ := hX
  have hlast : (ws ++ [(h, (.inr (ci, fs0) : va_E))])[ws.length]? = some (h, .inr (ci, fs0)) := by simp
  have hPc : va_P D vwCl [(h, .inr (ci, fs0))] H := by
    intro k q hk
    have hk0 : k < 1 := (List.getElem?_eq_some_iff.mp hk).1
    rw [show k = 0 by omega] at hk
    cases hk
    exact hP _ _ hlast
  have cw := va_cnB (R := R) (s := s) (args := args) (mc := mc2) (ms := ms2) (rm := { frames := d, cells := mc2, slots := ms2, locals := 64 * d }) 0 hts (kc_good hkc) rfl rfl rfl hnw (hts _ hkc.1) hkc.2.2.1 ⟨hfr, by show 8 + (1 + 11) + 64 * d ≤ _; omega⟩
  exact ct_go (a := (Value.ref h :: ([] : List Value)).toArray) (fs0 := fs0) (va_runIN (nL := c.maxLocals) (As := []) (rest := st) ⟨hx, hb, rfl, hown, hts⟩ (hM l H.size h) ⟨cw, hkc.2.2.2.1, hts _ hkc.2.2.2.2⟩ ⟨ct_blind (fun _ _ _ h => h), fun U hU hW => ⟨rfl, by rw [hU], by rw [hU]; exact hPc, va_K.moved hW.alike hK, trivial⟩⟩ rfl rfl hl.1 rfl (lv_room hst) hd ⟨by omega, by omega⟩) hP hD hS hA (fun q H1 locs1 hP1 hD1 hS1 => k q H1 locs1 ls hP1 hD1 hS1 hl)
theorem cw_initL {α : Type} (hX : CX X D cI cZ d mc ms own cc nL nm) {NW : State → Prop} {y : MethodName} {cc2 : ByteArray} {ci h idx mc2 ms2 : Nat} {fs0 : List Value} {fin : Nat → α → va_W} (hM : CtM D cI cZ NW d mc2 ms2 y cc2 ci fs0 fin) (hkc : KC y cc2) (hNb : ∀ u U : State, u.vm = U.vm → NW u → NW U) (hNW : ∀ U : State, X.2.2.2.2.1.WarmedH U.vm → NW U) (hml : Cond.methodLink own idx y ∈ gtbl) (hd : decode cc pc = .ok (.invokespecial idx, 3)) (hst : (st.map fun v => v.category).sum ≤ 8) (h1 : kc + mc2 ≤ mc) (h2 : ks + ms2 ≤ ms) (k : ∀ q : α, CW X D (pc + 3) L st (ws ++ fin h q) (kc + mc2) (ks + ms2)) : CW X D pc L (.ref h :: st) (ws ++ [(h, .inr (ci, fs0))]) kc ks := by
  obtain ⟨p, l, e, R, s, m, args, below, meth, c, cells, slots, Q, A⟩ := X
  intro H locs ls hP hD hS hl
  obtain ⟨hx, hb, hnl, hown, hts, hK, hA, hfr, hlo, hce, hsl, hname⟩ := hX
  have hlast : (ws ++ [(h, (.inr (ci, fs0) : va_E))])[ws.length]? = some (h, .inr (ci, fs0)) := by simp
  have hPc : va_P D vwCl [(h, .inr (ci, fs0))] H := by
    intro k q hk
    have hk0 : k < 1 := (List.getElem?_eq_some_iff.mp hk).1
    rw [show k = 0 by omega] at hk
    cases hk
    exact hP _ _ hlast
  have cw := cwI (R := R) (s := s) (args := args) (mc := mc2) (ms := ms2) (rm := { frames := d, cells := mc2, slots := ms2, locals := 64 * d }) 0 hts (kc_good hkc) rfl rfl rfl (hts _ hkc.1) (hts _ hml) (hts _ hkc.2.2.2.2) hkc.2.2.2.1 hkc.2.2.1 ⟨hfr, by show 8 + (1 + 11) + 64 * d ≤ _; omega⟩
  exact ct_go (a := (Value.ref h :: ([] : List Value)).toArray) (fs0 := fs0) (va_runI (nL := c.maxLocals) (As := []) (rest := st) ⟨hx, hb, rfl, hown, hts⟩ (hM l H.size h) cw ⟨ct_blind hNb, fun U hU hW => ⟨rfl, by rw [hU], by rw [hU]; exact hPc, va_K.moved hW.alike hK, hNW U hW⟩⟩ rfl rfl hl.1 rfl (lv_room hst) hd ⟨by omega, by omega⟩) hP hD hS hA (fun q H1 locs1 hP1 hD1 hS1 => k q H1 locs1 ls hP1 hD1 hS1 hl)
theorem cw_astore_1 (hX : CX X D cI cZ d mc ms own cc nL nm) {a0 b : Value} {x : Nat} {t : List Value} (hc : a0.category = 1) (hn : 1 < nL) (hd : decode cc pc = .ok (.astore_n 1, 1)) (k : CW X D (pc + 1) (a0 :: .ref x :: t) st ws kc ks) : CW X D pc (a0 :: b :: t) (.ref x :: st) ws kc ks := by
  obtain ⟨p, l, e, R, s, m, args, below, meth, c, cells, slots, Q, A⟩ := X
  exact fun H locs ls hP hD hS hl => lv_astore_n hX.1 hX.2.1 hd rfl (hl.lv _) (by rw [hX.2.2.1]; exact hn) rfl (fun ls2 hl2 => k H locs ls2 hP hD hS (hasL.set hl2 (prevOK (a := a0) (i := 0) rfl hc)))
theorem cw_astore_2 (hX : CX X D cI cZ d mc ms own cc nL nm) {a0 a1 b : Value} {x : Nat} {t : List Value} (hc : a1.category = 1) (hn : 2 < nL) (hd : decode cc pc = .ok (.astore_n 2, 1)) (k : CW X D (pc + 1) (a0 :: a1 :: .ref x :: t) st ws kc ks) : CW X D pc (a0 :: a1 :: b :: t) (.ref x :: st) ws kc ks := by
  obtain ⟨p, l, e, R, s, m, args, below, meth, c, cells, slots, Q, A⟩ := X
  exact fun H locs ls hP hD hS hl => lv_astore_n hX.1 hX.2.1 hd rfl (hl.lv _) (by rw [hX.2.2.1]; exact hn) rfl (fun ls2 hl2 => k H locs ls2 hP hD hS (hasL.set hl2 (prevOK (a := a1) (i := 1) rfl hc)))
end CWC
