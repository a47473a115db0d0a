theorem i_nlt {a b : Int32} (h : ¬ a < b) : b ≤ a := by
  rw [Int32.le_iff_toInt_le]; rw [Int32.lt_iff_toInt_lt] at h; omega
theorem i_lt {a b : Int32} (h : a < b) : ¬ b ≤ a := by
  rw [Int32.le_iff_toInt_le]; rw [Int32.lt_iff_toInt_lt] at h; omega
theorem i_nle {a b : Int32} (h : ¬ a ≤ b) : b < a := by
  rw [Int32.lt_iff_toInt_lt]; rw [Int32.le_iff_toInt_le] at h; omega
theorem i_le {a b : Int32} (h : a ≤ b) : ¬ b < a := by
  rw [Int32.lt_iff_toInt_lt]; rw [Int32.le_iff_toInt_le] at h; omega
section AWJ
variable {X : XT} {G : GT} {d : Nat} {own : String} {cc : ByteArray} {nL : Nat} {pc : Nat} {L st : List Value} {S : St}
theorem aw_jlt (hX : XC X G d own cc nL) {x y : Int32} {off : Int} {tgt : Nat} (hd : decode cc pc = .ok (.if_icmp .lt off, 3)) (ht : (pc : Int) + off = (tgt : Int)) (kt : ¬ y ≤ x → AW X G tgt L st S) (kf : y ≤ x → AW X G (pc + 3) L st S) : AW X G pc L (.int y :: .int x :: st) S :=
  aw_icmplt hX hd ht (fun h => kt (i_lt h)) (fun h => kf (i_nlt h))
theorem aw_jge (hX : XC X G d own cc nL) {x y : Int32} {off : Int} {tgt : Nat} (hd : decode cc pc = .ok (.if_icmp .ge off, 3)) (ht : (pc : Int) + off = (tgt : Int)) (kt : y ≤ x → AW X G tgt L st S) (kf : ¬ y ≤ x → AW X G (pc + 3) L st S) : AW X G pc L (.int y :: .int x :: st) S :=
  aw_icmpge hX hd ht (fun h => kt (h)) (fun h => kf (h))
theorem aw_jgt (hX : XC X G d own cc nL) {x y : Int32} {off : Int} {tgt : Nat} (hd : decode cc pc = .ok (.if_icmp .gt off, 3)) (ht : (pc : Int) + off = (tgt : Int)) (kt : ¬ x ≤ y → AW X G tgt L st S) (kf : x ≤ y → AW X G (pc + 3) L st S) : AW X G pc L (.int y :: .int x :: st) S :=
  aw_icmpgt hX hd ht (fun h => kt (i_lt h)) (fun h => kf (i_nlt h))
theorem aw_jle (hX : XC X G d own cc nL) {x y : Int32} {off : Int} {tgt : Nat} (hd : decode cc pc = .ok (.if_icmp .le off, 3)) (ht : (pc : Int) + off = (tgt : Int)) (kt : x ≤ y → AW X G tgt L st S) (kf : ¬ x ≤ y → AW X G (pc + 3) L st S) : AW X G pc L (.int y :: .int x :: st) S :=
  aw_icmple hX hd ht (fun h => kt (h)) (fun h => kf (h))
theorem aw_lookup (hX : XC X G d own cc nL) {dflt : Int} {ps : Array (Int × Int)} {len : Nat} {x : Int32} {off : Int} {tgt : Nat} (hd : decode cc pc = .ok (.lookupswitch dflt ps, len)) (hp : (ps.toList.zip (ps.toList.drop 1)).all (fun (a, next) => a.1 < next.1) = true) (ho : Op.lookupswitch.offset ps.toList dflt x.toInt = off) (ht : (pc : Int) + off = (tgt : Int)) (k : AW X G tgt L st S) : AW X G pc L (.int x :: st) S := by
  obtain ⟨p, l, e, R, s, m, args, below, meth, c, cells, slots, Q, A⟩ := X
  exact fun H locs ls hP hS hl => lv_lookup hX.1 hX.2.1 hd hp ho ht (k H locs ls hP hS hl)
theorem aw_tabOut (hX : XC X G d own cc nL) {dflt lo hi : Int} {offs : Array Int} {len : Nat} {x : Int32} {tgt : Nat} (hd : decode cc pc = .ok (.tableswitch dflt lo hi offs, len)) (h : x.toInt < lo ∨ hi < x.toInt) (ht : (pc : Int) + dflt = (tgt : Int)) (k : AW X G tgt L st S) : AW X G pc L (.int x :: st) S := by
  obtain ⟨p, l, e, R, s, m, args, below, meth, c, cells, slots, Q, A⟩ := X
  exact fun H locs ls hP hS hl => lv_tableOut hX.1 hX.2.1 hd h ht (k H locs ls hP hS hl)
theorem aw_tabIn (hX : XC X G d own cc nL) {dflt lo hi : Int} {offs : Array Int} {len : Nat} {x : Int32} {off : Int} {tgt : Nat} (hd : decode cc pc = .ok (.tableswitch dflt lo hi offs, len)) (h1 : ¬ x.toInt < lo) (h2 : ¬ hi < x.toInt) (ho : offs[(x.toInt - lo).toNat]? = some off) (ht : (pc : Int) + off = (tgt : Int)) (k : AW X G tgt L st S) : AW X G pc L (.int x :: st) S := by
  obtain ⟨p, l, e, R, s, m, args, below, meth, c, cells, slots, Q, A⟩ := X
  exact fun H locs ls hP hS hl => lv_tableIn hX.1 hX.2.1 hd h1 h2 ho ht (k H locs ls hP hS hl)
/-- a number's compare with 0, where it is one below: nI n - 1, and n may be 0 -/
theorem pm1 (n : Nat) : nI (n + 1) + Int32.ofInt (-1) = nI n := pk_m1 n
end AWJ
theorem bT {x : Bool} (h : x = true) : nI 1 = bI x := by subst h; rfl
theorem bF {x : Bool} (h : x = false) : nI 0 = bI x := by subst h; rfl
theorem bb {x y : Bool} (h : x = y) : bI x = bI y := by rw [h]
theorem sN_self {S : St} {k v : Nat} (h : S.1 k = v) : sN S k v = S := by
  have e : (fun j => if j = k then v else S.1 j) = S.1 := by
    funext j
    by_cases hj : j = k
    · subst hj; rw [if_pos rfl]; exact h.symm
    · rw [if_neg hj]
  unfold sN
  rw [e]
theorem sN_N {S : St} {k v j : Nat} : (sN S k v).1 j = if j = k then v else S.1 j := rfl
theorem sN_A {S : St} {k v : Nat} : (sN S k v).2.1 = S.2.1 := rfl
theorem sN_L {S : St} {k v : Nat} : (sN S k v).2.2.1 = S.2.2.1 := rfl
theorem sN_R {S : St} {k v : Nat} : (sN S k v).2.2.2 = S.2.2.2 := rfl
theorem sA_N {S : St} {k i : Nat} {v : Int32} : (sA S k i v).1 = S.1 := rfl
theorem sA_A {S : St} {k i j : Nat} {v : Int32} : (sA S k i v).2.1 j = if j = k then upd (S.2.1 k) i v else S.2.1 j := rfl
theorem sA_L {S : St} {k i : Nat} {v : Int32} : (sA S k i v).2.2.1 = S.2.2.1 := rfl
theorem sA_R {S : St} {k i : Nat} {v : Int32} : (sA S k i v).2.2.2 = S.2.2.2 := rfl
theorem sL_N {S : St} {k : Nat} {v : Int64} : (sL S k v).1 = S.1 := rfl
theorem sL_A {S : St} {k : Nat} {v : Int64} : (sL S k v).2.1 = S.2.1 := rfl
theorem sL_L {S : St} {k j : Nat} {v : Int64} : (sL S k v).2.2.1 j = if j = k then v else S.2.2.1 j := rfl
theorem sL_R {S : St} {k : Nat} {v : Int64} : (sL S k v).2.2.2 = S.2.2.2 := rfl
theorem sR_N {S : St} {k : Nat} {v : Int32} : (sR S k v).1 = S.1 := rfl
theorem sR_A {S : St} {k : Nat} {v : Int32} : (sR S k v).2.1 = S.2.1 := rfl
theorem sR_L {S : St} {k : Nat} {v : Int32} : (sR S k v).2.2.1 = S.2.2.1 := rfl
theorem sR_R {S : St} {k j : Nat} {v : Int32} : (sR S k v).2.2.2 j = if j = k then v else S.2.2.2 j := rfl
def inR (v lo hi : Int32) : Bool := decide (lo ≤ v) && decide (v ≤ hi)
theorem inR_f1 {v lo hi : Int32} (h : ¬ lo ≤ v) : inR v lo hi = false := by simp [inR, h]
theorem inR_f2 {v lo hi : Int32} (h : ¬ v ≤ hi) : inR v lo hi = false := by simp [inR, h]
theorem inR_t {v lo hi : Int32} (h : lo ≤ v) (h2 : v ≤ hi) : inR v lo hi = true := by simp [inR, h, h2]
theorem inR_of {v : Int32} {a b : Nat} (h : inR v (nI a) (nI b) = true) (ha : a < 2 ^ 31) (hb : b < 2 ^ 31) : ∃ j : Nat, v = nI j ∧ a ≤ j ∧ j ≤ b := by
  simp only [inR, Bool.and_eq_true, decide_eq_true_eq] at h
  obtain ⟨h1, h2⟩ := h
  have h0 : ¬ v < 0 := by
    have : (nI a).toInt = a := nI_toInt ha
    rw [Int32.le_iff_toInt_le] at h1
    rw [Int32.lt_iff_toInt_lt]
    have : (0 : Int32).toInt = 0 := rfl
    omega
  obtain ⟨j, hj, rfl⟩ := nI_of h0
  exact ⟨j, rfl, (nI_leI ha hj).mp h1, (nI_leI hj hb).mp h2⟩
theorem inR_nI {j a b : Nat} (hj : j < 2 ^ 31) (ha : a < 2 ^ 31) (hb : b < 2 ^ 31) : inR (nI j) (nI a) (nI b) = (decide (a ≤ j) && decide (j ≤ b)) := by
  simp only [inR, nI_leI ha hj, nI_leI hj hb]
