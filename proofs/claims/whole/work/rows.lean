section
-- ===== PART A: goes FIRST, ahead of the names: the tables' words, and 'selects' of the private methods out of them =====
/-- a private method of a class that the tables say can be made, by its rows of tables_1 -/
def lw_okq (q : MethodName × Nat) : Prop := (q.1.cls ≠ "java/lang/invoke/MethodHandle" ∧ q.1.cls ≠ "java/lang/invoke/VarHandle") ∧ Cond.instantiable q.1.cls q.2 ∈ tables_1 ∧ Cond.privateMethod q.1 ∈ tables_1 ∧ Cond.instanceMethod q.1 ∈ tables_1
theorem lw_p0 : lw_okq (⟨"FlueRounds$Draft", "readStep", "(I)Z"⟩, 9) := ⟨⟨by decide +kernel, by decide +kernel⟩, List.mem_of_getElem? (i := 20) (by decide +kernel), List.mem_of_getElem? (i := 306) (by decide +kernel), List.mem_of_getElem? (i := 307) (by decide +kernel)⟩
theorem lw_p1 : lw_okq (⟨"FlueRounds$Draft", "readFrom", "()Z"⟩, 9) := ⟨⟨by decide +kernel, by decide +kernel⟩, List.mem_of_getElem? (i := 20) (by decide +kernel), List.mem_of_getElem? (i := 310) (by decide +kernel), List.mem_of_getElem? (i := 311) (by decide +kernel)⟩
theorem lw_p2 : lw_okq (⟨"FlueRounds$Draft", "readNumber", "(II)Z"⟩, 9) := ⟨⟨by decide +kernel, by decide +kernel⟩, List.mem_of_getElem? (i := 20) (by decide +kernel), List.mem_of_getElem? (i := 314) (by decide +kernel), List.mem_of_getElem? (i := 315) (by decide +kernel)⟩
theorem lw_p3 : lw_okq (⟨"FlueRounds$Draft", "digitAtPlace", "()I"⟩, 9) := ⟨⟨by decide +kernel, by decide +kernel⟩, List.mem_of_getElem? (i := 20) (by decide +kernel), List.mem_of_getElem? (i := 318) (by decide +kernel), List.mem_of_getElem? (i := 319) (by decide +kernel)⟩
theorem lw_p4 : lw_okq (⟨"FlueRounds$Draft", "readSpan", "(I)Z"⟩, 9) := ⟨⟨by decide +kernel, by decide +kernel⟩, List.mem_of_getElem? (i := 20) (by decide +kernel), List.mem_of_getElem? (i := 322) (by decide +kernel), List.mem_of_getElem? (i := 323) (by decide +kernel)⟩
theorem lw_p5 : lw_okq (⟨"FlueRounds$LawBook", "inForce", "(I)I"⟩, 6) := ⟨⟨by decide +kernel, by decide +kernel⟩, List.mem_of_getElem? (i := 60) (by decide +kernel), List.mem_of_getElem? (i := 342) (by decide +kernel), List.mem_of_getElem? (i := 343) (by decide +kernel)⟩
theorem lw_p6 : lw_okq (⟨"FlueRounds", "straightPull", "(I)I"⟩, 11) := ⟨⟨by decide +kernel, by decide +kernel⟩, List.mem_of_getElem? (i := 12) (by decide +kernel), List.mem_of_getElem? (i := 387) (by decide +kernel), List.mem_of_getElem? (i := 388) (by decide +kernel)⟩
theorem lw_p7 : lw_okq (⟨"FlueRounds", "bentPull", "(I)I"⟩, 11) := ⟨⟨by decide +kernel, by decide +kernel⟩, List.mem_of_getElem? (i := 12) (by decide +kernel), List.mem_of_getElem? (i := 397) (by decide +kernel), List.mem_of_getElem? (i := 398) (by decide +kernel)⟩
theorem lw_p8 : lw_okq (⟨"FlueRounds", "sharedPull", "(I)I"⟩, 11) := ⟨⟨by decide +kernel, by decide +kernel⟩, List.mem_of_getElem? (i := 12) (by decide +kernel), List.mem_of_getElem? (i := 405) (by decide +kernel), List.mem_of_getElem? (i := 406) (by decide +kernel)⟩
theorem lw_p9 : lw_okq (⟨"FlueRounds", "sweptBy", "(II)I"⟩, 11) := ⟨⟨by decide +kernel, by decide +kernel⟩, List.mem_of_getElem? (i := 12) (by decide +kernel), List.mem_of_getElem? (i := 414) (by decide +kernel), List.mem_of_getElem? (i := 415) (by decide +kernel)⟩
theorem lw_p10 : lw_okq (⟨"FlueRounds", "isForbidden", "(I)Z"⟩, 11) := ⟨⟨by decide +kernel, by decide +kernel⟩, List.mem_of_getElem? (i := 12) (by decide +kernel), List.mem_of_getElem? (i := 422) (by decide +kernel), List.mem_of_getElem? (i := 423) (by decide +kernel)⟩
theorem lw_p11 : lw_okq (⟨"FlueRounds", "doerOf", "(I)I"⟩, 11) := ⟨⟨by decide +kernel, by decide +kernel⟩, List.mem_of_getElem? (i := 12) (by decide +kernel), List.mem_of_getElem? (i := 433) (by decide +kernel), List.mem_of_getElem? (i := 434) (by decide +kernel)⟩
theorem lw_p12 : lw_okq (⟨"FlueRounds", "nearestHand", "(I)I"⟩, 11) := ⟨⟨by decide +kernel, by decide +kernel⟩, List.mem_of_getElem? (i := 12) (by decide +kernel), List.mem_of_getElem? (i := 437) (by decide +kernel), List.mem_of_getElem? (i := 438) (by decide +kernel)⟩
theorem lw_p13 : lw_okq (⟨"FlueRounds", "leastHandNotIll", "()I"⟩, 11) := ⟨⟨by decide +kernel, by decide +kernel⟩, List.mem_of_getElem? (i := 12) (by decide +kernel), List.mem_of_getElem? (i := 449) (by decide +kernel), List.mem_of_getElem? (i := 450) (by decide +kernel)⟩
theorem lw_p14 : lw_okq (⟨"FlueRounds", "dueOf", "(I)I"⟩, 11) := ⟨⟨by decide +kernel, by decide +kernel⟩, List.mem_of_getElem? (i := 12) (by decide +kernel), List.mem_of_getElem? (i := 457) (by decide +kernel), List.mem_of_getElem? (i := 458) (by decide +kernel)⟩
theorem lw_p15 : lw_okq (⟨"FlueRounds", "wasBeyond", "(II)Z"⟩, 11) := ⟨⟨by decide +kernel, by decide +kernel⟩, List.mem_of_getElem? (i := 12) (by decide +kernel), List.mem_of_getElem? (i := 470) (by decide +kernel), List.mem_of_getElem? (i := 471) (by decide +kernel)⟩
def lw_privs_1 : List (MethodName × Nat) := [(⟨"FlueRounds$Draft", "readStep", "(I)Z"⟩, 9), (⟨"FlueRounds$Draft", "readFrom", "()Z"⟩, 9), (⟨"FlueRounds$Draft", "readNumber", "(II)Z"⟩, 9), (⟨"FlueRounds$Draft", "digitAtPlace", "()I"⟩, 9), (⟨"FlueRounds$Draft", "readSpan", "(I)Z"⟩, 9), (⟨"FlueRounds$LawBook", "inForce", "(I)I"⟩, 6), (⟨"FlueRounds", "straightPull", "(I)I"⟩, 11), (⟨"FlueRounds", "bentPull", "(I)I"⟩, 11), (⟨"FlueRounds", "sharedPull", "(I)I"⟩, 11), (⟨"FlueRounds", "sweptBy", "(II)I"⟩, 11), (⟨"FlueRounds", "isForbidden", "(I)Z"⟩, 11), (⟨"FlueRounds", "doerOf", "(I)I"⟩, 11), (⟨"FlueRounds", "nearestHand", "(I)I"⟩, 11), (⟨"FlueRounds", "leastHandNotIll", "()I"⟩, 11), (⟨"FlueRounds", "dueOf", "(I)I"⟩, 11), (⟨"FlueRounds", "wasBeyond", "(II)Z"⟩, 11)]
theorem lw_r1 : ∀ q ∈ lw_privs_1, lw_okq q := List.forall_mem_cons.mpr ⟨lw_p0, List.forall_mem_cons.mpr ⟨lw_p1, List.forall_mem_cons.mpr ⟨lw_p2, List.forall_mem_cons.mpr ⟨lw_p3, List.forall_mem_cons.mpr ⟨lw_p4, List.forall_mem_cons.mpr ⟨lw_p5, List.forall_mem_cons.mpr ⟨lw_p6, List.forall_mem_cons.mpr ⟨lw_p7, List.forall_mem_cons.mpr ⟨lw_p8, List.forall_mem_cons.mpr ⟨lw_p9, List.forall_mem_cons.mpr ⟨lw_p10, List.forall_mem_cons.mpr ⟨lw_p11, List.forall_mem_cons.mpr ⟨lw_p12, List.forall_mem_cons.mpr ⟨lw_p13, List.forall_mem_cons.mpr ⟨lw_p14, List.forall_mem_cons.mpr ⟨lw_p15, fun _ h => absurd h List.not_mem_nil⟩⟩⟩⟩⟩⟩⟩⟩⟩⟩⟩⟩⟩⟩⟩⟩
theorem lw_p16 : lw_okq (⟨"FlueRounds", "sweeperBy", "(II)I"⟩, 11) := ⟨⟨by decide +kernel, by decide +kernel⟩, List.mem_of_getElem? (i := 12) (by decide +kernel), List.mem_of_getElem? (i := 526) (by decide +kernel), List.mem_of_getElem? (i := 527) (by decide +kernel)⟩
theorem lw_p17 : lw_okq (⟨"FlueRounds", "waitingSince", "(III)I"⟩, 11) := ⟨⟨by decide +kernel, by decide +kernel⟩, List.mem_of_getElem? (i := 12) (by decide +kernel), List.mem_of_getElem? (i := 554) (by decide +kernel), List.mem_of_getElem? (i := 555) (by decide +kernel)⟩
theorem lw_p18 : lw_okq (⟨"FlueRounds$Tour", "keepTried", "(I)V"⟩, 8) := ⟨⟨by decide +kernel, by decide +kernel⟩, List.mem_of_getElem? (i := 207) (by decide +kernel), List.mem_of_getElem? (i := 578) (by decide +kernel), List.mem_of_getElem? (i := 579) (by decide +kernel)⟩
theorem lw_p19 : lw_okq (⟨"FlueRoundsModel", "faultAlone", "()I"⟩, 27) := ⟨⟨by decide +kernel, by decide +kernel⟩, List.mem_of_getElem? (i := 599) (by decide +kernel), List.mem_of_getElem? (i := 703) (by decide +kernel), List.mem_of_getElem? (i := 704) (by decide +kernel)⟩
theorem lw_p20 : lw_okq (⟨"FlueRoundsModel", "reads", "()I"⟩, 27) := ⟨⟨by decide +kernel, by decide +kernel⟩, List.mem_of_getElem? (i := 599) (by decide +kernel), List.mem_of_getElem? (i := 707) (by decide +kernel), List.mem_of_getElem? (i := 708) (by decide +kernel)⟩
theorem lw_p21 : lw_okq (⟨"FlueRoundsModel", "isDigit", "(I)Z"⟩, 27) := ⟨⟨by decide +kernel, by decide +kernel⟩, List.mem_of_getElem? (i := 599) (by decide +kernel), List.mem_of_getElem? (i := 711) (by decide +kernel), List.mem_of_getElem? (i := 712) (by decide +kernel)⟩
theorem lw_p22 : lw_okq (⟨"FlueRoundsModel", "spanBy", "(II)I"⟩, 27) := ⟨⟨by decide +kernel, by decide +kernel⟩, List.mem_of_getElem? (i := 599) (by decide +kernel), List.mem_of_getElem? (i := 719) (by decide +kernel), List.mem_of_getElem? (i := 720) (by decide +kernel)⟩
theorem lw_p23 : lw_okq (⟨"FlueRoundsModel", "isFlue", "(I)Z"⟩, 27) := ⟨⟨by decide +kernel, by decide +kernel⟩, List.mem_of_getElem? (i := 599) (by decide +kernel), List.mem_of_getElem? (i := 735) (by decide +kernel), List.mem_of_getElem? (i := 736) (by decide +kernel)⟩
theorem lw_p24 : lw_okq (⟨"FlueRoundsModel", "of", "(II)I"⟩, 27) := ⟨⟨by decide +kernel, by decide +kernel⟩, List.mem_of_getElem? (i := 599) (by decide +kernel), List.mem_of_getElem? (i := 739) (by decide +kernel), List.mem_of_getElem? (i := 740) (by decide +kernel)⟩
theorem lw_p25 : lw_okq (⟨"FlueRoundsModel", "isForbidden", "(I)Z"⟩, 27) := ⟨⟨by decide +kernel, by decide +kernel⟩, List.mem_of_getElem? (i := 599) (by decide +kernel), List.mem_of_getElem? (i := 749) (by decide +kernel), List.mem_of_getElem? (i := 750) (by decide +kernel)⟩
theorem lw_p26 : lw_okq (⟨"FlueRoundsModel", "knownOn", "(II)I"⟩, 27) := ⟨⟨by decide +kernel, by decide +kernel⟩, List.mem_of_getElem? (i := 599) (by decide +kernel), List.mem_of_getElem? (i := 753) (by decide +kernel), List.mem_of_getElem? (i := 754) (by decide +kernel)⟩
theorem lw_p27 : lw_okq (⟨"FlueRoundsModel", "doer", "(I)I"⟩, 27) := ⟨⟨by decide +kernel, by decide +kernel⟩, List.mem_of_getElem? (i := 599) (by decide +kernel), List.mem_of_getElem? (i := 757) (by decide +kernel), List.mem_of_getElem? (i := 758) (by decide +kernel)⟩
theorem lw_p28 : lw_okq (⟨"FlueRoundsModel", "dueBy", "(II)I"⟩, 27) := ⟨⟨by decide +kernel, by decide +kernel⟩, List.mem_of_getElem? (i := 599) (by decide +kernel), List.mem_of_getElem? (i := 765) (by decide +kernel), List.mem_of_getElem? (i := 766) (by decide +kernel)⟩
theorem lw_p29 : lw_okq (⟨"FlueRoundsModel", "wayOf", "(I)I"⟩, 27) := ⟨⟨by decide +kernel, by decide +kernel⟩, List.mem_of_getElem? (i := 599) (by decide +kernel), List.mem_of_getElem? (i := 817) (by decide +kernel), List.mem_of_getElem? (i := 818) (by decide +kernel)⟩
theorem lw_p30 : lw_okq (⟨"FlueRoundsModel", "goesOn", "(I)Z"⟩, 27) := ⟨⟨by decide +kernel, by decide +kernel⟩, List.mem_of_getElem? (i := 599) (by decide +kernel), List.mem_of_getElem? (i := 821) (by decide +kernel), List.mem_of_getElem? (i := 822) (by decide +kernel)⟩
def lw_privs_2 : List (MethodName × Nat) := [(⟨"FlueRounds", "sweeperBy", "(II)I"⟩, 11), (⟨"FlueRounds", "waitingSince", "(III)I"⟩, 11), (⟨"FlueRounds$Tour", "keepTried", "(I)V"⟩, 8), (⟨"FlueRoundsModel", "faultAlone", "()I"⟩, 27), (⟨"FlueRoundsModel", "reads", "()I"⟩, 27), (⟨"FlueRoundsModel", "isDigit", "(I)Z"⟩, 27), (⟨"FlueRoundsModel", "spanBy", "(II)I"⟩, 27), (⟨"FlueRoundsModel", "isFlue", "(I)Z"⟩, 27), (⟨"FlueRoundsModel", "of", "(II)I"⟩, 27), (⟨"FlueRoundsModel", "isForbidden", "(I)Z"⟩, 27), (⟨"FlueRoundsModel", "knownOn", "(II)I"⟩, 27), (⟨"FlueRoundsModel", "doer", "(I)I"⟩, 27), (⟨"FlueRoundsModel", "dueBy", "(II)I"⟩, 27), (⟨"FlueRoundsModel", "wayOf", "(I)I"⟩, 27), (⟨"FlueRoundsModel", "goesOn", "(I)Z"⟩, 27)]
theorem lw_r2 : ∀ q ∈ lw_privs_2, lw_okq q := List.forall_mem_cons.mpr ⟨lw_p16, List.forall_mem_cons.mpr ⟨lw_p17, List.forall_mem_cons.mpr ⟨lw_p18, List.forall_mem_cons.mpr ⟨lw_p19, List.forall_mem_cons.mpr ⟨lw_p20, List.forall_mem_cons.mpr ⟨lw_p21, List.forall_mem_cons.mpr ⟨lw_p22, List.forall_mem_cons.mpr ⟨lw_p23, List.forall_mem_cons.mpr ⟨lw_p24, List.forall_mem_cons.mpr ⟨lw_p25, List.forall_mem_cons.mpr ⟨lw_p26, List.forall_mem_cons.mpr ⟨lw_p27, List.forall_mem_cons.mpr ⟨lw_p28, List.forall_mem_cons.mpr ⟨lw_p29, List.forall_mem_cons.mpr ⟨lw_p30, fun _ h => absurd h List.not_mem_nil⟩⟩⟩⟩⟩⟩⟩⟩⟩⟩⟩⟩⟩⟩⟩
def lw_privs : List (MethodName × Nat) := lw_privs_1 ++ (lw_privs_2)
def lw_tbl : List Cond := k2_sels lw_privs ++ tables_1
theorem lw_privs_ok : ∀ q ∈ lw_privs, lw_okq q := by
  show ∀ q ∈ lw_privs_1 ++ (lw_privs_2), lw_okq q
  exact List.forall_mem_append.mpr ⟨lw_r1, lw_r2⟩
end
section
def RX0 : String := "FlueRounds$Draft"
def TX0 : u_T := fun k => match k with
  | 0 => ("FlueRounds$Draft", "bytes", "[I", true)
  | 1 => ("FlueRounds$Draft", "size", "I", false)
  | 2 => ("FlueRounds$Draft", "itemFuel", "[I", true)
  | 3 => ("FlueRounds$Draft", "itemSpan", "[I", true)
  | 4 => ("FlueRounds$Draft", "itemFrom", "[I", true)
  | 5 => ("FlueRounds$Draft", "items", "I", false)
  | 6 => ("FlueRounds$Draft", "place", "I", false)
  | 7 => ("FlueRounds$Draft", "number", "I", false)
  | _ => ("FlueRounds$Draft", "from", "I", false)
def tyX0 : Nat → FieldType := fun k => match k with
  | 0 => .array .int
  | 1 => .int
  | 2 => .array .int
  | 3 => .array .int
  | 4 => .array .int
  | 5 => .int
  | 6 => .int
  | 7 => .int
  | _ => .int
abbrev wsX00 : List Cond := u_ws RX0 TX0 9
theorem nmX0 : ∀ a, a < 9 → ∀ b, b < 9 → a ≠ b → (TX0 a).2.1 ≠ (TX0 b).2.1 := by decide +kernel
theorem tyX0_ok : ∀ k, k < 9 → parseFieldDescriptor (TX0 k).2.2.1 = some (tyX0 k) := by decide +kernel
abbrev cX0_init : ByteArray := prog_2_method_1_code
def yX0_init : MethodName := ⟨RX0, "<init>", "()V"⟩
abbrev cX0_hasRoomFor : ByteArray := prog_2_method_2_code
def yX0_hasRoomFor : MethodName := ⟨RX0, "hasRoomFor", "(I)Z"⟩
abbrev cX0_append : ByteArray := prog_2_method_3_code
def yX0_append : MethodName := ⟨RX0, "append", "(JI)V"⟩
abbrev cX0_empty : ByteArray := prog_2_method_4_code
def yX0_empty : MethodName := ⟨RX0, "empty", "()I"⟩
abbrev cX0_readItems : ByteArray := prog_2_method_5_code
def yX0_readItems : MethodName := ⟨RX0, "readItems", "()I"⟩
abbrev cX0_readStep : ByteArray := prog_2_method_6_code
def yX0_readStep : MethodName := ⟨RX0, "readStep", "(I)Z"⟩
abbrev cX0_readFrom : ByteArray := prog_2_method_7_code
def yX0_readFrom : MethodName := ⟨RX0, "readFrom", "()Z"⟩
abbrev cX0_readSpan : ByteArray := prog_2_method_8_code
def yX0_readSpan : MethodName := ⟨RX0, "readSpan", "(I)Z"⟩
abbrev cX0_readNumber : ByteArray := prog_2_method_9_code
def yX0_readNumber : MethodName := ⟨RX0, "readNumber", "(II)Z"⟩
abbrev cX0_digitAtPlace : ByteArray := prog_2_method_10_code
def yX0_digitAtPlace : MethodName := ⟨RX0, "digitAtPlace", "()I"⟩
def RX1 : String := "FlueRounds$Fires"
def TX1 : u_T := fun k => match k with
  | 0 => ("FlueRounds$Fires", "flue", "[I", true)
  | 1 => ("FlueRounds$Fires", "day", "[I", true)
  | _ => ("FlueRounds$Fires", "size", "I", false)
def tyX1 : Nat → FieldType := fun k => match k with
  | 0 => .array .int
  | 1 => .array .int
  | _ => .int
abbrev wsX10 : List Cond := u_ws RX1 TX1 3
theorem nmX1 : ∀ a, a < 3 → ∀ b, b < 3 → a ≠ b → (TX1 a).2.1 ≠ (TX1 b).2.1 := by decide +kernel
theorem tyX1_ok : ∀ k, k < 3 → parseFieldDescriptor (TX1 k).2.2.1 = some (tyX1 k) := by decide +kernel
abbrev cX1_init : ByteArray := prog_3_method_1_code
def yX1_init : MethodName := ⟨RX1, "<init>", "()V"⟩
abbrev cX1_has : ByteArray := prog_3_method_2_code
def yX1_has : MethodName := ⟨RX1, "has", "(I)Z"⟩
abbrev cX1_isFull : ByteArray := prog_3_method_3_code
def yX1_isFull : MethodName := ⟨RX1, "isFull", "()Z"⟩
abbrev cX1_add : ByteArray := prog_3_method_4_code
def yX1_add : MethodName := ⟨RX1, "add", "(II)I"⟩
def RX2 : String := "FlueRounds$Flues"
def TX2 : u_T := fun k => match k with
  | 0 => ("FlueRounds$Flues", "kind", "[I", true)
  | 1 => ("FlueRounds$Flues", "fuel", "[I", true)
  | 2 => ("FlueRounds$Flues", "height", "[I", true)
  | 3 => ("FlueRounds$Flues", "width", "[I", true)
  | 4 => ("FlueRounds$Flues", "bends", "[I", true)
  | 5 => ("FlueRounds$Flues", "x", "[I", true)
  | 6 => ("FlueRounds$Flues", "y", "[I", true)
  | 7 => ("FlueRounds$Flues", "hand", "[I", true)
  | 8 => ("FlueRounds$Flues", "came", "[I", true)
  | 9 => ("FlueRounds$Flues", "refusals", "[I", true)
  | 10 => ("FlueRounds$Flues", "waiting", "[I", true)
  | _ => ("FlueRounds$Flues", "size", "I", false)
def tyX2 : Nat → FieldType := fun k => match k with
  | 0 => .array .int
  | 1 => .array .int
  | 2 => .array .int
  | 3 => .array .int
  | 4 => .array .int
  | 5 => .array .int
  | 6 => .array .int
  | 7 => .array .int
  | 8 => .array .int
  | 9 => .array .int
  | 10 => .array .int
  | _ => .int
abbrev wsX20 : List Cond := u_ws RX2 TX2 12
theorem nmX2 : ∀ a, a < 12 → ∀ b, b < 12 → a ≠ b → (TX2 a).2.1 ≠ (TX2 b).2.1 := by decide +kernel
theorem tyX2_ok : ∀ k, k < 12 → parseFieldDescriptor (TX2 k).2.2.1 = some (tyX2 k) := by decide +kernel
abbrev cX2_init : ByteArray := prog_4_method_1_code
def yX2_init : MethodName := ⟨RX2, "<init>", "()V"⟩
abbrev cX2_has : ByteArray := prog_4_method_2_code
def yX2_has : MethodName := ⟨RX2, "has", "(I)Z"⟩
abbrev cX2_isFull : ByteArray := prog_4_method_3_code
def yX2_isFull : MethodName := ⟨RX2, "isFull", "()Z"⟩
abbrev cX2_setBody : ByteArray := prog_4_method_4_code
def yX2_setBody : MethodName := ⟨RX2, "setBody", "(IIIII)V"⟩
abbrev cX2_setPlace : ByteArray := prog_4_method_5_code
def yX2_setPlace : MethodName := ⟨RX2, "setPlace", "(IIII)V"⟩
abbrev cX2_add : ByteArray := prog_4_method_6_code
def yX2_add : MethodName := ⟨RX2, "add", "()I"⟩
abbrev cX2_openPull : ByteArray := prog_4_method_7_code
def yX2_openPull : MethodName := ⟨RX2, "openPull", "(I)I"⟩
abbrev cX2_wayBetween : ByteArray := prog_4_method_8_code
def yX2_wayBetween : MethodName := ⟨RX2, "wayBetween", "(II)I"⟩
abbrev cX2_waitingAheadOf : ByteArray := prog_4_method_9_code
def yX2_waitingAheadOf : MethodName := ⟨RX2, "waitingAheadOf", "(I)I"⟩
def RX3 : String := "FlueRounds$LawBook"
def TX3 : u_T := fun k => match k with
  | 0 => ("FlueRounds$LawBook", "told", "[I", true)
  | 1 => ("FlueRounds$LawBook", "start", "[I", true)
  | 2 => ("FlueRounds$LawBook", "itemFuel", "[I", true)
  | 3 => ("FlueRounds$LawBook", "itemSpan", "[I", true)
  | 4 => ("FlueRounds$LawBook", "itemFrom", "[I", true)
  | _ => ("FlueRounds$LawBook", "size", "I", false)
def tyX3 : Nat → FieldType := fun k => match k with
  | 0 => .array .int
  | 1 => .array .int
  | 2 => .array .int
  | 3 => .array .int
  | 4 => .array .int
  | _ => .int
abbrev wsX30 : List Cond := u_ws RX3 TX3 6
theorem nmX3 : ∀ a, a < 6 → ∀ b, b < 6 → a ≠ b → (TX3 a).2.1 ≠ (TX3 b).2.1 := by decide +kernel
theorem tyX3_ok : ∀ k, k < 6 → parseFieldDescriptor (TX3 k).2.2.1 = some (tyX3 k) := by decide +kernel
abbrev cX3_init : ByteArray := prog_5_method_1_code
def yX3_init : MethodName := ⟨RX3, "<init>", "()V"⟩
abbrev cX3_isFull : ByteArray := prog_5_method_2_code
def yX3_isFull : MethodName := ⟨RX3, "isFull", "()Z"⟩
abbrev cX3_add : ByteArray := prog_5_method_3_code
def yX3_add : MethodName := ⟨RX3, "add", "(LFlueRounds$Draft;I)I"⟩
abbrev cX3_spanOn : ByteArray := prog_5_method_4_code
def yX3_spanOn : MethodName := ⟨RX3, "spanOn", "(II)I"⟩
abbrev cX3_firstDue : ByteArray := prog_5_method_5_code
def yX3_firstDue : MethodName := ⟨RX3, "firstDue", "(II)I"⟩
abbrev cX3_inForce : ByteArray := prog_5_method_6_code
def yX3_inForce : MethodName := ⟨RX3, "inForce", "(I)I"⟩
def RX4 : String := "FlueRounds$Looks"
def TX4 : u_T := fun k => match k with
  | 0 => ("FlueRounds$Looks", "flue", "[I", true)
  | 1 => ("FlueRounds$Looks", "day", "[I", true)
  | 2 => ("FlueRounds$Looks", "told", "[I", true)
  | 3 => ("FlueRounds$Looks", "finding", "[I", true)
  | _ => ("FlueRounds$Looks", "size", "I", false)
def tyX4 : Nat → FieldType := fun k => match k with
  | 0 => .array .int
  | 1 => .array .int
  | 2 => .array .int
  | 3 => .array .int
  | _ => .int
abbrev wsX40 : List Cond := u_ws RX4 TX4 5
theorem nmX4 : ∀ a, a < 5 → ∀ b, b < 5 → a ≠ b → (TX4 a).2.1 ≠ (TX4 b).2.1 := by decide +kernel
theorem tyX4_ok : ∀ k, k < 5 → parseFieldDescriptor (TX4 k).2.2.1 = some (tyX4 k) := by decide +kernel
abbrev cX4_init : ByteArray := prog_6_method_1_code
def yX4_init : MethodName := ⟨RX4, "<init>", "()V"⟩
abbrev cX4_isFull : ByteArray := prog_6_method_2_code
def yX4_isFull : MethodName := ⟨RX4, "isFull", "()Z"⟩
abbrev cX4_add : ByteArray := prog_6_method_3_code
def yX4_add : MethodName := ⟨RX4, "add", "(IIIZ)I"⟩
abbrev cX4_asKnown : ByteArray := prog_6_method_4_code
def yX4_asKnown : MethodName := ⟨RX4, "asKnown", "(II)I"⟩
def RX5 : String := "FlueRounds$Sweeps"
def TX5 : u_T := fun k => match k with
  | 0 => ("FlueRounds$Sweeps", "flue", "[I", true)
  | 1 => ("FlueRounds$Sweeps", "day", "[I", true)
  | 2 => ("FlueRounds$Sweeps", "hand", "[I", true)
  | 3 => ("FlueRounds$Sweeps", "fee", "[I", true)
  | _ => ("FlueRounds$Sweeps", "size", "I", false)
def tyX5 : Nat → FieldType := fun k => match k with
  | 0 => .array .int
  | 1 => .array .int
  | 2 => .array .int
  | 3 => .array .int
  | _ => .int
abbrev wsX50 : List Cond := u_ws RX5 TX5 5
theorem nmX5 : ∀ a, a < 5 → ∀ b, b < 5 → a ≠ b → (TX5 a).2.1 ≠ (TX5 b).2.1 := by decide +kernel
theorem tyX5_ok : ∀ k, k < 5 → parseFieldDescriptor (TX5 k).2.2.1 = some (tyX5 k) := by decide +kernel
abbrev cX5_init : ByteArray := prog_7_method_1_code
def yX5_init : MethodName := ⟨RX5, "<init>", "()V"⟩
abbrev cX5_isFull : ByteArray := prog_7_method_2_code
def yX5_isFull : MethodName := ⟨RX5, "isFull", "()Z"⟩
abbrev cX5_add : ByteArray := prog_7_method_3_code
def yX5_add : MethodName := ⟨RX5, "add", "(IIII)V"⟩
abbrev cX5_latest : ByteArray := prog_7_method_4_code
def yX5_latest : MethodName := ⟨RX5, "latest", "(II)I"⟩
abbrev cX5_earnedBy : ByteArray := prog_7_method_5_code
def yX5_earnedBy : MethodName := ⟨RX5, "earnedBy", "(I)I"⟩
abbrev cX5_doneBy : ByteArray := prog_7_method_6_code
def yX5_doneBy : MethodName := ⟨RX5, "doneBy", "(I)I"⟩
def RX6 : String := "FlueRounds$Tour"
def TX6 : u_T := fun k => match k with
  | 0 => ("FlueRounds$Tour", "flue", "[I", true)
  | 1 => ("FlueRounds$Tour", "x", "[I", true)
  | 2 => ("FlueRounds$Tour", "y", "[I", true)
  | 3 => ("FlueRounds$Tour", "passed", "[Z", true)
  | 4 => ("FlueRounds$Tour", "tried", "[I", true)
  | 5 => ("FlueRounds$Tour", "best", "[I", true)
  | 6 => ("FlueRounds$Tour", "size", "I", false)
  | _ => ("FlueRounds$Tour", "way", "I", false)
def tyX6 : Nat → FieldType := fun k => match k with
  | 0 => .array .int
  | 1 => .array .int
  | 2 => .array .int
  | 3 => .array .boolean
  | 4 => .array .int
  | 5 => .array .int
  | 6 => .int
  | _ => .int
abbrev wsX60 : List Cond := u_ws RX6 TX6 8
theorem nmX6 : ∀ a, a < 8 → ∀ b, b < 8 → a ≠ b → (TX6 a).2.1 ≠ (TX6 b).2.1 := by decide +kernel
theorem tyX6_ok : ∀ k, k < 8 → parseFieldDescriptor (TX6 k).2.2.1 = some (tyX6 k) := by decide +kernel
abbrev cX6_init : ByteArray := prog_8_method_1_code
def yX6_init : MethodName := ⟨RX6, "<init>", "()V"⟩
abbrev cX6_restart : ByteArray := prog_8_method_2_code
def yX6_restart : MethodName := ⟨RX6, "restart", "()V"⟩
abbrev cX6_addStop : ByteArray := prog_8_method_3_code
def yX6_addStop : MethodName := ⟨RX6, "addStop", "(III)V"⟩
abbrev cX6_flueAt : ByteArray := prog_8_method_4_code
def yX6_flueAt : MethodName := ⟨RX6, "flueAt", "(I)I"⟩
abbrev cX6_findLeastWay : ByteArray := prog_8_method_5_code
def yX6_findLeastWay : MethodName := ⟨RX6, "findLeastWay", "()V"⟩
abbrev cX6_extend : ByteArray := prog_8_method_6_code
def yX6_extend : MethodName := ⟨RX6, "extend", "(LFlueRounds$Tour;IIII)V"⟩
abbrev cX6_keepTried : ByteArray := prog_8_method_7_code
def yX6_keepTried : MethodName := ⟨RX6, "keepTried", "(I)V"⟩
def RX7 : String := "FlueRounds"
def TX7 : u_T := fun k => match k with
  | 0 => ("FlueRounds", "draft", "LFlueRounds$Draft;", true)
  | 1 => ("FlueRounds", "book", "LFlueRounds$LawBook;", true)
  | 2 => ("FlueRounds", "flues", "LFlueRounds$Flues;", true)
  | 3 => ("FlueRounds", "looks", "LFlueRounds$Looks;", true)
  | 4 => ("FlueRounds", "fires", "LFlueRounds$Fires;", true)
  | 5 => ("FlueRounds", "sweeps", "LFlueRounds$Sweeps;", true)
  | 6 => ("FlueRounds", "tour", "LFlueRounds$Tour;", true)
  | 7 => ("FlueRounds", "handIsIll", "[Z", true)
  | 8 => ("FlueRounds", "today", "I", false)
  | 9 => ("FlueRounds", "feeRate", "I", false)
  | _ => ("FlueRounds", "asked", "J", false)
def tyX7 : Nat → FieldType := fun k => match k with
  | 0 => .object "FlueRounds$Draft"
  | 1 => .object "FlueRounds$LawBook"
  | 2 => .object "FlueRounds$Flues"
  | 3 => .object "FlueRounds$Looks"
  | 4 => .object "FlueRounds$Fires"
  | 5 => .object "FlueRounds$Sweeps"
  | 6 => .object "FlueRounds$Tour"
  | 7 => .array .boolean
  | 8 => .int
  | 9 => .int
  | _ => .long
abbrev wsX70 : List Cond := u_ws RX7 TX7 11
theorem nmX7 : ∀ a, a < 11 → ∀ b, b < 11 → a ≠ b → (TX7 a).2.1 ≠ (TX7 b).2.1 := by decide +kernel
theorem tyX7_ok : ∀ k, k < 11 → parseFieldDescriptor (TX7 k).2.2.1 = some (tyX7 k) := by decide +kernel
abbrev cX7_init : ByteArray := prog_1_method_1_code
def yX7_init : MethodName := ⟨RX7, "<init>", "()V"⟩
abbrev cX7_type : ByteArray := prog_1_method_2_code
def yX7_type : MethodName := ⟨RX7, "type", "(JI)I"⟩
abbrev cX7_clear : ByteArray := prog_1_method_3_code
def yX7_clear : MethodName := ⟨RX7, "clear", "()I"⟩
abbrev cX7_law : ByteArray := prog_1_method_4_code
def yX7_law : MethodName := ⟨RX7, "law", "()I"⟩
abbrev cX7_span : ByteArray := prog_1_method_5_code
def yX7_span : MethodName := ⟨RX7, "span", "(II)I"⟩
abbrev cX7_days : ByteArray := prog_1_method_6_code
def yX7_days : MethodName := ⟨RX7, "days", "(I)I"⟩
abbrev cX7_flue : ByteArray := prog_1_method_7_code
def yX7_flue : MethodName := ⟨RX7, "flue", "(IIIIIIII)I"⟩
abbrev cX7_draught : ByteArray := prog_1_method_8_code
def yX7_draught : MethodName := ⟨RX7, "draught", "(I)I"⟩
abbrev cX7_about : ByteArray := prog_1_method_9_code
def yX7_about : MethodName := ⟨RX7, "about", "(II)I"⟩
abbrev cX7_due : ByteArray := prog_1_method_10_code
def yX7_due : MethodName := ⟨RX7, "due", "(I)I"⟩
abbrev cX7_beyond : ByteArray := prog_1_method_11_code
def yX7_beyond : MethodName := ⟨RX7, "beyond", "()I"⟩
abbrev cX7_sweep : ByteArray := prog_1_method_12_code
def yX7_sweep : MethodName := ⟨RX7, "sweep", "(I)I"⟩
abbrev cX7_refuse : ByteArray := prog_1_method_13_code
def yX7_refuse : MethodName := ⟨RX7, "refuse", "(I)I"⟩
abbrev cX7_look : ByteArray := prog_1_method_14_code
def yX7_look : MethodName := ⟨RX7, "look", "(IIZ)I"⟩
abbrev cX7_known : ByteArray := prog_1_method_15_code
def yX7_known : MethodName := ⟨RX7, "known", "(II)I"⟩
abbrev cX7_fire : ByteArray := prog_1_method_16_code
def yX7_fire : MethodName := ⟨RX7, "fire", "(II)I"⟩
abbrev cX7_back : ByteArray := prog_1_method_17_code
def yX7_back : MethodName := ⟨RX7, "back", "(II)I"⟩
abbrev cX7_rate : ByteArray := prog_1_method_18_code
def yX7_rate : MethodName := ⟨RX7, "rate", "(I)I"⟩
abbrev cX7_ill : ByteArray := prog_1_method_19_code
def yX7_ill : MethodName := ⟨RX7, "ill", "(IZ)I"⟩
abbrev cX7_fees : ByteArray := prog_1_method_20_code
def yX7_fees : MethodName := ⟨RX7, "fees", "(II)I"⟩
abbrev cX7_round : ByteArray := prog_1_method_21_code
def yX7_round : MethodName := ⟨RX7, "round", "(III)I"⟩
abbrev cX7_at : ByteArray := prog_1_method_22_code
def yX7_at : MethodName := ⟨RX7, "at", "(I)I"⟩
abbrev cX7_count : ByteArray := prog_1_method_23_code
def yX7_count : MethodName := ⟨RX7, "count", "(I)I"⟩
abbrev cX7_trace : ByteArray := prog_1_method_24_code
def yX7_trace : MethodName := ⟨RX7, "trace", "()J"⟩
abbrev cX7_within : ByteArray := prog_1_method_25_code
def yX7_within : MethodName := ⟨RX7, "within", "(III)Z"⟩
abbrev cX7_asNumber : ByteArray := prog_1_method_26_code
def yX7_asNumber : MethodName := ⟨RX7, "asNumber", "(Z)I"⟩
abbrev cX7_isHand : ByteArray := prog_1_method_27_code
def yX7_isHand : MethodName := ⟨RX7, "isHand", "(I)Z"⟩
abbrev cX7_isPlace : ByteArray := prog_1_method_28_code
def yX7_isPlace : MethodName := ⟨RX7, "isPlace", "(II)Z"⟩
abbrev cX7_isBody : ByteArray := prog_1_method_29_code
def yX7_isBody : MethodName := ⟨RX7, "isBody", "(IIIII)Z"⟩
abbrev cX7_straightPull : ByteArray := prog_1_method_30_code
def yX7_straightPull : MethodName := ⟨RX7, "straightPull", "(I)I"⟩
abbrev cX7_bentPull : ByteArray := prog_1_method_31_code
def yX7_bentPull : MethodName := ⟨RX7, "bentPull", "(I)I"⟩
abbrev cX7_sharedPull : ByteArray := prog_1_method_32_code
def yX7_sharedPull : MethodName := ⟨RX7, "sharedPull", "(I)I"⟩
abbrev cX7_sweptBy : ByteArray := prog_1_method_33_code
def yX7_sweptBy : MethodName := ⟨RX7, "sweptBy", "(II)I"⟩
abbrev cX7_sweeperBy : ByteArray := prog_1_method_34_code
def yX7_sweeperBy : MethodName := ⟨RX7, "sweeperBy", "(II)I"⟩
abbrev cX7_dueOf : ByteArray := prog_1_method_35_code
def yX7_dueOf : MethodName := ⟨RX7, "dueOf", "(I)I"⟩
abbrev cX7_wasBeyond : ByteArray := prog_1_method_36_code
def yX7_wasBeyond : MethodName := ⟨RX7, "wasBeyond", "(II)Z"⟩
abbrev cX7_isForbidden : ByteArray := prog_1_method_37_code
def yX7_isForbidden : MethodName := ⟨RX7, "isForbidden", "(I)Z"⟩
abbrev cX7_doerOf : ByteArray := prog_1_method_38_code
def yX7_doerOf : MethodName := ⟨RX7, "doerOf", "(I)I"⟩
abbrev cX7_nearestHand : ByteArray := prog_1_method_39_code
def yX7_nearestHand : MethodName := ⟨RX7, "nearestHand", "(I)I"⟩
abbrev cX7_leastHandNotIll : ByteArray := prog_1_method_40_code
def yX7_leastHandNotIll : MethodName := ⟨RX7, "leastHandNotIll", "()I"⟩
abbrev cX7_waitingSince : ByteArray := prog_1_method_41_code
def yX7_waitingSince : MethodName := ⟨RX7, "waitingSince", "(III)I"⟩
def RX8 : String := "FlueRoundsModel"
def TX8 : u_T := fun k => match k with
  | 0 => ("FlueRoundsModel", "thrown", "I", false)
  | 1 => ("FlueRoundsModel", "today", "I", false)
  | 2 => ("FlueRoundsModel", "draft", "[I", true)
  | 3 => ("FlueRoundsModel", "drafted", "I", false)
  | 4 => ("FlueRoundsModel", "laws", "I", false)
  | 5 => ("FlueRoundsModel", "lawOn", "[I", true)
  | 6 => ("FlueRoundsModel", "begins", "[I", true)
  | 7 => ("FlueRoundsModel", "fuelOf", "[I", true)
  | 8 => ("FlueRoundsModel", "spanOf", "[I", true)
  | 9 => ("FlueRoundsModel", "fromOf", "[I", true)
  | 10 => ("FlueRoundsModel", "items", "I", false)
  | 11 => ("FlueRoundsModel", "flues", "I", false)
  | 12 => ("FlueRoundsModel", "flue", "[I", true)
  | 13 => ("FlueRoundsModel", "looks", "I", false)
  | 14 => ("FlueRoundsModel", "look", "[I", true)
  | 15 => ("FlueRoundsModel", "fires", "I", false)
  | 16 => ("FlueRoundsModel", "fire", "[I", true)
  | 17 => ("FlueRoundsModel", "sweeps", "I", false)
  | 18 => ("FlueRoundsModel", "sweep", "[I", true)
  | 19 => ("FlueRoundsModel", "rate", "I", false)
  | 20 => ("FlueRoundsModel", "isIll", "[Z", true)
  | 21 => ("FlueRoundsModel", "roundMany", "I", false)
  | 22 => ("FlueRoundsModel", "row", "[I", true)
  | 23 => ("FlueRoundsModel", "chosen", "[I", true)
  | 24 => ("FlueRoundsModel", "tried", "[I", true)
  | 25 => ("FlueRoundsModel", "way", "I", false)
  | _ => ("FlueRoundsModel", "trace", "J", false)
def tyX8 : Nat → FieldType := fun k => match k with
  | 0 => .int
  | 1 => .int
  | 2 => .array .int
  | 3 => .int
  | 4 => .int
  | 5 => .array .int
  | 6 => .array .int
  | 7 => .array .int
  | 8 => .array .int
  | 9 => .array .int
  | 10 => .int
  | 11 => .int
  | 12 => .array .int
  | 13 => .int
  | 14 => .array .int
  | 15 => .int
  | 16 => .array .int
  | 17 => .int
  | 18 => .array .int
  | 19 => .int
  | 20 => .array .boolean
  | 21 => .int
  | 22 => .array .int
  | 23 => .array .int
  | 24 => .array .int
  | 25 => .int
  | _ => .long
abbrev wsX80 : List Cond := u_ws RX8 TX8 27
theorem nmX8 : ∀ a, a < 27 → ∀ b, b < 27 → a ≠ b → (TX8 a).2.1 ≠ (TX8 b).2.1 := by decide +kernel
theorem tyX8_ok : ∀ k, k < 27 → parseFieldDescriptor (TX8 k).2.2.1 = some (tyX8 k) := by decide +kernel
abbrev cX8_init : ByteArray := prog_10_method_1_code
def yX8_init : MethodName := ⟨RX8, "<init>", "()V"⟩
abbrev cX8_in : ByteArray := prog_10_method_3_code
def yX8_in : MethodName := ⟨RX8, "in", "(III)Z"⟩
abbrev cX8_type : ByteArray := prog_10_method_4_code
def yX8_type : MethodName := ⟨RX8, "type", "(JI)I"⟩
abbrev cX8_clear : ByteArray := prog_10_method_5_code
def yX8_clear : MethodName := ⟨RX8, "clear", "()I"⟩
abbrev cX8_isDigit : ByteArray := prog_10_method_6_code
def yX8_isDigit : MethodName := ⟨RX8, "isDigit", "(I)Z"⟩
abbrev cX8_reads : ByteArray := prog_10_method_7_code
def yX8_reads : MethodName := ⟨RX8, "reads", "()I"⟩
abbrev cX8_law : ByteArray := prog_10_method_8_code
def yX8_law : MethodName := ⟨RX8, "law", "()I"⟩
abbrev cX8_faultAlone : ByteArray := prog_10_method_9_code
def yX8_faultAlone : MethodName := ⟨RX8, "faultAlone", "()I"⟩
abbrev cX8_spanBy : ByteArray := prog_10_method_10_code
def yX8_spanBy : MethodName := ⟨RX8, "spanBy", "(II)I"⟩
abbrev cX8_span : ByteArray := prog_10_method_11_code
def yX8_span : MethodName := ⟨RX8, "span", "(II)I"⟩
abbrev cX8_days : ByteArray := prog_10_method_12_code
def yX8_days : MethodName := ⟨RX8, "days", "(I)I"⟩
abbrev cX8_isFlue : ByteArray := prog_10_method_13_code
def yX8_isFlue : MethodName := ⟨RX8, "isFlue", "(I)Z"⟩
abbrev cX8_flue : ByteArray := prog_10_method_14_code
def yX8_flue : MethodName := ⟨RX8, "flue", "(IIIIIIII)I"⟩
abbrev cX8_of : ByteArray := prog_10_method_15_code
def yX8_of : MethodName := ⟨RX8, "of", "(II)I"⟩
abbrev cX8_draught : ByteArray := prog_10_method_16_code
def yX8_draught : MethodName := ⟨RX8, "draught", "(I)I"⟩
abbrev cX8_dueBy : ByteArray := prog_10_method_17_code
def yX8_dueBy : MethodName := ⟨RX8, "dueBy", "(II)I"⟩
abbrev cX8_knownOn : ByteArray := prog_10_method_18_code
def yX8_knownOn : MethodName := ⟨RX8, "knownOn", "(II)I"⟩
abbrev cX8_isForbidden : ByteArray := prog_10_method_19_code
def yX8_isForbidden : MethodName := ⟨RX8, "isForbidden", "(I)Z"⟩
abbrev cX8_doer : ByteArray := prog_10_method_20_code
def yX8_doer : MethodName := ⟨RX8, "doer", "(I)I"⟩
abbrev cX8_about : ByteArray := prog_10_method_21_code
def yX8_about : MethodName := ⟨RX8, "about", "(II)I"⟩
abbrev cX8_due : ByteArray := prog_10_method_22_code
def yX8_due : MethodName := ⟨RX8, "due", "(I)I"⟩
abbrev cX8_beyond : ByteArray := prog_10_method_23_code
def yX8_beyond : MethodName := ⟨RX8, "beyond", "()I"⟩
abbrev cX8_sweep : ByteArray := prog_10_method_24_code
def yX8_sweep : MethodName := ⟨RX8, "sweep", "(I)I"⟩
abbrev cX8_refuse : ByteArray := prog_10_method_25_code
def yX8_refuse : MethodName := ⟨RX8, "refuse", "(I)I"⟩
abbrev cX8_look : ByteArray := prog_10_method_26_code
def yX8_look : MethodName := ⟨RX8, "look", "(IIZ)I"⟩
abbrev cX8_known : ByteArray := prog_10_method_27_code
def yX8_known : MethodName := ⟨RX8, "known", "(II)I"⟩
abbrev cX8_fire : ByteArray := prog_10_method_28_code
def yX8_fire : MethodName := ⟨RX8, "fire", "(II)I"⟩
abbrev cX8_back : ByteArray := prog_10_method_29_code
def yX8_back : MethodName := ⟨RX8, "back", "(II)I"⟩
abbrev cX8_isHand : ByteArray := prog_10_method_30_code
def yX8_isHand : MethodName := ⟨RX8, "isHand", "(I)Z"⟩
abbrev cX8_rate : ByteArray := prog_10_method_31_code
def yX8_rate : MethodName := ⟨RX8, "rate", "(I)I"⟩
abbrev cX8_ill : ByteArray := prog_10_method_32_code
def yX8_ill : MethodName := ⟨RX8, "ill", "(IZ)I"⟩
abbrev cX8_fees : ByteArray := prog_10_method_33_code
def yX8_fees : MethodName := ⟨RX8, "fees", "(II)I"⟩
abbrev cX8_wayOf : ByteArray := prog_10_method_34_code
def yX8_wayOf : MethodName := ⟨RX8, "wayOf", "(I)I"⟩
abbrev cX8_goesOn : ByteArray := prog_10_method_35_code
def yX8_goesOn : MethodName := ⟨RX8, "goesOn", "(I)Z"⟩
abbrev cX8_round : ByteArray := prog_10_method_36_code
def yX8_round : MethodName := ⟨RX8, "round", "(III)I"⟩
abbrev cX8_at : ByteArray := prog_10_method_37_code
def yX8_at : MethodName := ⟨RX8, "at", "(I)I"⟩
abbrev cX8_count : ByteArray := prog_10_method_38_code
def yX8_count : MethodName := ⟨RX8, "count", "(I)I"⟩
abbrev cX8_trace : ByteArray := prog_10_method_39_code
def yX8_trace : MethodName := ⟨RX8, "trace", "()J"⟩
def RJ9 : String := "java/lang/Math"
def TJ9 : u_T := fun k => match k with
  | _ => ("", "", "", false)
def tyJ9 : Nat → FieldType := fun k => match k with
  | _ => .int
theorem nmJ9 : ∀ a, a < 0 → ∀ b, b < 0 → a ≠ b → (TJ9 a).2.1 ≠ (TJ9 b).2.1 := by decide +kernel
theorem tyJ9_ok : ∀ k, k < 0 → parseFieldDescriptor (TJ9 k).2.2.1 = some (tyJ9 k) := by decide +kernel
abbrev cJ9_abs_0f7a4 : ByteArray := prog_11_method_59_code
def yJ9_abs_0f7a4 : MethodName := ⟨RJ9, "abs", "(I)I"⟩
abbrev cJ9_max_7cf53 : ByteArray := prog_11_method_65_code
def yJ9_max_7cf53 : MethodName := ⟨RJ9, "max", "(II)I"⟩
def RL : String := "FlueRoundsLaw"
abbrev cL_law : ByteArray := code
def yL_law : MethodName := ⟨RL, "law", "([I)Z"⟩
abbrev vwCl : List vw_C := [(RX0, TX0, 9), (RX1, TX1, 3), (RX2, TX2, 12), (RX3, TX3, 6), (RX4, TX4, 5), (RX5, TX5, 5), (RX6, TX6, 8), (RX7, TX7, 11), (RX8, TX8, 27)]
end
section
theorem dX0_init_0 : decode cX0_init 0 = .ok (.aload_n 0, 1) := by decide +kernel
theorem dX0_init_1 : decode cX0_init 1 = .ok (.invokespecial 3, 3) := by decide +kernel
theorem dX0_init_4 : decode cX0_init 4 = .ok (.aload_n 0, 1) := by decide +kernel
theorem dX0_init_5 : decode cX0_init 5 = .ok (.bipush 60, 2) := by decide +kernel
theorem dX0_init_7 : decode cX0_init 7 = .ok (.newarray .int, 2) := by decide +kernel
theorem dX0_init_9 : decode cX0_init 9 = .ok (.putfield 11, 3) := by decide +kernel
theorem dX0_init_12 : decode cX0_init 12 = .ok (.aload_n 0, 1) := by decide +kernel
theorem dX0_init_13 : decode cX0_init 13 = .ok (.iconst 0, 1) := by decide +kernel
theorem dX0_init_14 : decode cX0_init 14 = .ok (.putfield 15, 3) := by decide +kernel
theorem dX0_init_17 : decode cX0_init 17 = .ok (.aload_n 0, 1) := by decide +kernel
theorem dX0_init_18 : decode cX0_init 18 = .ok (.bipush 30, 2) := by decide +kernel
theorem dX0_init_20 : decode cX0_init 20 = .ok (.newarray .int, 2) := by decide +kernel
theorem dX0_init_22 : decode cX0_init 22 = .ok (.putfield 19, 3) := by decide +kernel
theorem dX0_init_25 : decode cX0_init 25 = .ok (.aload_n 0, 1) := by decide +kernel
theorem dX0_init_26 : decode cX0_init 26 = .ok (.bipush 30, 2) := by decide +kernel
theorem dX0_init_28 : decode cX0_init 28 = .ok (.newarray .int, 2) := by decide +kernel
theorem dX0_init_30 : decode cX0_init 30 = .ok (.putfield 22, 3) := by decide +kernel
theorem dX0_init_33 : decode cX0_init 33 = .ok (.aload_n 0, 1) := by decide +kernel
theorem dX0_init_34 : decode cX0_init 34 = .ok (.bipush 30, 2) := by decide +kernel
theorem dX0_init_36 : decode cX0_init 36 = .ok (.newarray .int, 2) := by decide +kernel
theorem dX0_init_38 : decode cX0_init 38 = .ok (.putfield 25, 3) := by decide +kernel
theorem dX0_init_41 : decode cX0_init 41 = .ok (.aload_n 0, 1) := by decide +kernel
theorem dX0_init_42 : decode cX0_init 42 = .ok (.iconst 0, 1) := by decide +kernel
theorem dX0_init_43 : decode cX0_init 43 = .ok (.putfield 28, 3) := by decide +kernel
theorem dX0_init_46 : decode cX0_init 46 = .ok (.aload_n 0, 1) := by decide +kernel
theorem dX0_init_47 : decode cX0_init 47 = .ok (.iconst 0, 1) := by decide +kernel
theorem dX0_init_48 : decode cX0_init 48 = .ok (.putfield 31, 3) := by decide +kernel
theorem dX0_init_51 : decode cX0_init 51 = .ok (.aload_n 0, 1) := by decide +kernel
theorem dX0_init_52 : decode cX0_init 52 = .ok (.iconst 0, 1) := by decide +kernel
theorem dX0_init_53 : decode cX0_init 53 = .ok (.putfield 34, 3) := by decide +kernel
theorem dX0_init_56 : decode cX0_init 56 = .ok (.aload_n 0, 1) := by decide +kernel
theorem dX0_init_57 : decode cX0_init 57 = .ok (.iconst 0, 1) := by decide +kernel
theorem dX0_init_58 : decode cX0_init 58 = .ok (.putfield 37, 3) := by decide +kernel
theorem dX0_init_61 : decode cX0_init 61 = .ok (.return_, 1) := by decide +kernel
theorem dX0_hasRoomFor_0 : decode cX0_hasRoomFor 0 = .ok (.aload_n 0, 1) := by decide +kernel
theorem dX0_hasRoomFor_1 : decode cX0_hasRoomFor 1 = .ok (.getfield 15, 3) := by decide +kernel
theorem dX0_hasRoomFor_4 : decode cX0_hasRoomFor 4 = .ok (.iload_n 1, 1) := by decide +kernel
theorem dX0_hasRoomFor_5 : decode cX0_hasRoomFor 5 = .ok (.iadd, 1) := by decide +kernel
theorem dX0_hasRoomFor_6 : decode cX0_hasRoomFor 6 = .ok (.bipush 60, 2) := by decide +kernel
theorem dX0_hasRoomFor_8 : decode cX0_hasRoomFor 8 = .ok (.if_icmp .gt 7, 3) := by decide +kernel
theorem dX0_hasRoomFor_11 : decode cX0_hasRoomFor 11 = .ok (.iconst 1, 1) := by decide +kernel
theorem dX0_hasRoomFor_12 : decode cX0_hasRoomFor 12 = .ok (.goto 4, 3) := by decide +kernel
theorem dX0_hasRoomFor_15 : decode cX0_hasRoomFor 15 = .ok (.iconst 0, 1) := by decide +kernel
theorem dX0_hasRoomFor_16 : decode cX0_hasRoomFor 16 = .ok (.ireturn, 1) := by decide +kernel
theorem dX0_append_0 : decode cX0_append 0 = .ok (.iload_n 3, 1) := by decide +kernel
theorem dX0_append_1 : decode cX0_append 1 = .ok (.iconst 1, 1) := by decide +kernel
theorem dX0_append_2 : decode cX0_append 2 = .ok (.isub, 1) := by decide +kernel
theorem dX0_append_3 : decode cX0_append 3 = .ok (.istore 4, 2) := by decide +kernel
theorem dX0_append_5 : decode cX0_append 5 = .ok (.iload 4, 2) := by decide +kernel
theorem dX0_append_7 : decode cX0_append 7 = .ok (.ifCond .lt 49, 3) := by decide +kernel
theorem dX0_append_10 : decode cX0_append 10 = .ok (.aload_n 0, 1) := by decide +kernel
theorem dX0_append_11 : decode cX0_append 11 = .ok (.getfield 15, 3) := by decide +kernel
theorem dX0_append_14 : decode cX0_append 14 = .ok (.bipush 60, 2) := by decide +kernel
theorem dX0_append_16 : decode cX0_append 16 = .ok (.if_icmp .ge 40, 3) := by decide +kernel
theorem dX0_append_19 : decode cX0_append 19 = .ok (.aload_n 0, 1) := by decide +kernel
theorem dX0_append_20 : decode cX0_append 20 = .ok (.getfield 11, 3) := by decide +kernel
theorem dX0_append_23 : decode cX0_append 23 = .ok (.aload_n 0, 1) := by decide +kernel
theorem dX0_append_24 : decode cX0_append 24 = .ok (.getfield 15, 3) := by decide +kernel
theorem dX0_append_27 : decode cX0_append 27 = .ok (.lload_n 1, 1) := by decide +kernel
theorem dX0_append_28 : decode cX0_append 28 = .ok (.bipush 8, 2) := by decide +kernel
theorem dX0_append_30 : decode cX0_append 30 = .ok (.iload 4, 2) := by decide +kernel
theorem dX0_append_32 : decode cX0_append 32 = .ok (.imul, 1) := by decide +kernel
theorem dX0_append_33 : decode cX0_append 33 = .ok (.lushr, 1) := by decide +kernel
theorem dX0_append_34 : decode cX0_append 34 = .ok (.l2i, 1) := by decide +kernel
theorem dX0_append_35 : decode cX0_append 35 = .ok (.sipush 255, 3) := by decide +kernel
theorem dX0_append_38 : decode cX0_append 38 = .ok (.iand, 1) := by decide +kernel
theorem dX0_append_39 : decode cX0_append 39 = .ok (.iastore, 1) := by decide +kernel
theorem dX0_append_40 : decode cX0_append 40 = .ok (.aload_n 0, 1) := by decide +kernel
theorem dX0_append_41 : decode cX0_append 41 = .ok (.dup, 1) := by decide +kernel
theorem dX0_append_42 : decode cX0_append 42 = .ok (.getfield 15, 3) := by decide +kernel
theorem dX0_append_45 : decode cX0_append 45 = .ok (.iconst 1, 1) := by decide +kernel
theorem dX0_append_46 : decode cX0_append 46 = .ok (.iadd, 1) := by decide +kernel
theorem dX0_append_47 : decode cX0_append 47 = .ok (.putfield 15, 3) := by decide +kernel
theorem dX0_append_50 : decode cX0_append 50 = .ok (.iinc 4 (-1), 3) := by decide +kernel
theorem dX0_append_53 : decode cX0_append 53 = .ok (.goto (-48), 3) := by decide +kernel
theorem dX0_append_56 : decode cX0_append 56 = .ok (.return_, 1) := by decide +kernel
theorem dX0_empty_0 : decode cX0_empty 0 = .ok (.aload_n 0, 1) := by decide +kernel
theorem dX0_empty_1 : decode cX0_empty 1 = .ok (.getfield 15, 3) := by decide +kernel
theorem dX0_empty_4 : decode cX0_empty 4 = .ok (.istore_n 1, 1) := by decide +kernel
theorem dX0_empty_5 : decode cX0_empty 5 = .ok (.aload_n 0, 1) := by decide +kernel
theorem dX0_empty_6 : decode cX0_empty 6 = .ok (.iconst 0, 1) := by decide +kernel
theorem dX0_empty_7 : decode cX0_empty 7 = .ok (.putfield 15, 3) := by decide +kernel
theorem dX0_empty_10 : decode cX0_empty 10 = .ok (.iload_n 1, 1) := by decide +kernel
theorem dX0_empty_11 : decode cX0_empty 11 = .ok (.ireturn, 1) := by decide +kernel
theorem dX0_readItems_0 : decode cX0_readItems 0 = .ok (.aload_n 0, 1) := by decide +kernel
theorem dX0_readItems_1 : decode cX0_readItems 1 = .ok (.iconst 0, 1) := by decide +kernel
theorem dX0_readItems_2 : decode cX0_readItems 2 = .ok (.putfield 28, 3) := by decide +kernel
theorem dX0_readItems_5 : decode cX0_readItems 5 = .ok (.aload_n 0, 1) := by decide +kernel
theorem dX0_readItems_6 : decode cX0_readItems 6 = .ok (.iconst 0, 1) := by decide +kernel
theorem dX0_readItems_7 : decode cX0_readItems 7 = .ok (.putfield 31, 3) := by decide +kernel
theorem dX0_readItems_10 : decode cX0_readItems 10 = .ok (.aload_n 0, 1) := by decide +kernel
theorem dX0_readItems_11 : decode cX0_readItems 11 = .ok (.iconst 0, 1) := by decide +kernel
theorem dX0_readItems_12 : decode cX0_readItems 12 = .ok (.putfield 37, 3) := by decide +kernel
theorem dX0_readItems_15 : decode cX0_readItems 15 = .ok (.iconst 0, 1) := by decide +kernel
theorem dX0_readItems_16 : decode cX0_readItems 16 = .ok (.istore_n 1, 1) := by decide +kernel
theorem dX0_readItems_17 : decode cX0_readItems 17 = .ok (.iload_n 1, 1) := by decide +kernel
theorem dX0_readItems_18 : decode cX0_readItems 18 = .ok (.bipush 60, 2) := by decide +kernel
theorem dX0_readItems_20 : decode cX0_readItems 20 = .ok (.if_icmp .ge 41, 3) := by decide +kernel
theorem dX0_readItems_23 : decode cX0_readItems 23 = .ok (.aload_n 0, 1) := by decide +kernel
theorem dX0_readItems_24 : decode cX0_readItems 24 = .ok (.getfield 31, 3) := by decide +kernel
theorem dX0_readItems_27 : decode cX0_readItems 27 = .ok (.aload_n 0, 1) := by decide +kernel
theorem dX0_readItems_28 : decode cX0_readItems 28 = .ok (.getfield 15, 3) := by decide +kernel
theorem dX0_readItems_31 : decode cX0_readItems 31 = .ok (.if_icmp .ge 30, 3) := by decide +kernel
theorem dX0_readItems_34 : decode cX0_readItems 34 = .ok (.aload_n 0, 1) := by decide +kernel
theorem dX0_readItems_35 : decode cX0_readItems 35 = .ok (.aload_n 0, 1) := by decide +kernel
theorem dX0_readItems_36 : decode cX0_readItems 36 = .ok (.getfield 11, 3) := by decide +kernel
theorem dX0_readItems_39 : decode cX0_readItems 39 = .ok (.aload_n 0, 1) := by decide +kernel
theorem dX0_readItems_40 : decode cX0_readItems 40 = .ok (.getfield 31, 3) := by decide +kernel
theorem dX0_readItems_43 : decode cX0_readItems 43 = .ok (.iaload, 1) := by decide +kernel
theorem dX0_readItems_44 : decode cX0_readItems 44 = .ok (.invokevirtual 40, 3) := by decide +kernel
theorem dX0_readItems_47 : decode cX0_readItems 47 = .ok (.ifCond .ne 8, 3) := by decide +kernel
theorem dX0_readItems_50 : decode cX0_readItems 50 = .ok (.aload_n 0, 1) := by decide +kernel
theorem dX0_readItems_51 : decode cX0_readItems 51 = .ok (.getfield 31, 3) := by decide +kernel
theorem dX0_readItems_54 : decode cX0_readItems 54 = .ok (.ireturn, 1) := by decide +kernel
theorem dX0_readItems_55 : decode cX0_readItems 55 = .ok (.iinc 1 1, 3) := by decide +kernel
theorem dX0_readItems_58 : decode cX0_readItems 58 = .ok (.goto (-41), 3) := by decide +kernel
theorem dX0_readItems_61 : decode cX0_readItems 61 = .ok (.bipush (-9), 2) := by decide +kernel
theorem dX0_readItems_63 : decode cX0_readItems 63 = .ok (.ireturn, 1) := by decide +kernel
theorem dX0_readStep_0 : decode cX0_readStep 0 = .ok (.iload_n 1, 1) := by decide +kernel
theorem dX0_readStep_1 : decode cX0_readStep 1 = .ok (.lookupswitch 86 #[(32, 51), (64, 63), (99, 80), (103, 68), (119, 74)], 51) := by decide +kernel
theorem dX0_readStep_52 : decode cX0_readStep 52 = .ok (.aload_n 0, 1) := by decide +kernel
theorem dX0_readStep_53 : decode cX0_readStep 53 = .ok (.dup, 1) := by decide +kernel
theorem dX0_readStep_54 : decode cX0_readStep 54 = .ok (.getfield 31, 3) := by decide +kernel
theorem dX0_readStep_57 : decode cX0_readStep 57 = .ok (.iconst 1, 1) := by decide +kernel
theorem dX0_readStep_58 : decode cX0_readStep 58 = .ok (.iadd, 1) := by decide +kernel
theorem dX0_readStep_59 : decode cX0_readStep 59 = .ok (.putfield 31, 3) := by decide +kernel
theorem dX0_readStep_62 : decode cX0_readStep 62 = .ok (.iconst 1, 1) := by decide +kernel
theorem dX0_readStep_63 : decode cX0_readStep 63 = .ok (.ireturn, 1) := by decide +kernel
theorem dX0_readStep_64 : decode cX0_readStep 64 = .ok (.aload_n 0, 1) := by decide +kernel
theorem dX0_readStep_65 : decode cX0_readStep 65 = .ok (.invokevirtual 44, 3) := by decide +kernel
theorem dX0_readStep_68 : decode cX0_readStep 68 = .ok (.ireturn, 1) := by decide +kernel
theorem dX0_readStep_69 : decode cX0_readStep 69 = .ok (.aload_n 0, 1) := by decide +kernel
theorem dX0_readStep_70 : decode cX0_readStep 70 = .ok (.iconst 0, 1) := by decide +kernel
theorem dX0_readStep_71 : decode cX0_readStep 71 = .ok (.invokevirtual 48, 3) := by decide +kernel
theorem dX0_readStep_74 : decode cX0_readStep 74 = .ok (.ireturn, 1) := by decide +kernel
theorem dX0_readStep_75 : decode cX0_readStep 75 = .ok (.aload_n 0, 1) := by decide +kernel
theorem dX0_readStep_76 : decode cX0_readStep 76 = .ok (.iconst 1, 1) := by decide +kernel
theorem dX0_readStep_77 : decode cX0_readStep 77 = .ok (.invokevirtual 48, 3) := by decide +kernel
theorem dX0_readStep_80 : decode cX0_readStep 80 = .ok (.ireturn, 1) := by decide +kernel
theorem dX0_readStep_81 : decode cX0_readStep 81 = .ok (.aload_n 0, 1) := by decide +kernel
theorem dX0_readStep_82 : decode cX0_readStep 82 = .ok (.iconst 2, 1) := by decide +kernel
theorem dX0_readStep_83 : decode cX0_readStep 83 = .ok (.invokevirtual 48, 3) := by decide +kernel
theorem dX0_readStep_86 : decode cX0_readStep 86 = .ok (.ireturn, 1) := by decide +kernel
theorem dX0_readStep_87 : decode cX0_readStep 87 = .ok (.iconst 0, 1) := by decide +kernel
theorem dX0_readStep_88 : decode cX0_readStep 88 = .ok (.ireturn, 1) := by decide +kernel
theorem dX0_readFrom_0 : decode cX0_readFrom 0 = .ok (.aload_n 0, 1) := by decide +kernel
theorem dX0_readFrom_1 : decode cX0_readFrom 1 = .ok (.iconst 0, 1) := by decide +kernel
theorem dX0_readFrom_2 : decode cX0_readFrom 2 = .ok (.sipush 500, 3) := by decide +kernel
theorem dX0_readFrom_5 : decode cX0_readFrom 5 = .ok (.invokevirtual 51, 3) := by decide +kernel
theorem dX0_readFrom_8 : decode cX0_readFrom 8 = .ok (.ifCond .ne 5, 3) := by decide +kernel
theorem dX0_readFrom_11 : decode cX0_readFrom 11 = .ok (.iconst 0, 1) := by decide +kernel
theorem dX0_readFrom_12 : decode cX0_readFrom 12 = .ok (.ireturn, 1) := by decide +kernel
theorem dX0_readFrom_13 : decode cX0_readFrom 13 = .ok (.aload_n 0, 1) := by decide +kernel
theorem dX0_readFrom_14 : decode cX0_readFrom 14 = .ok (.aload_n 0, 1) := by decide +kernel
theorem dX0_readFrom_15 : decode cX0_readFrom 15 = .ok (.getfield 34, 3) := by decide +kernel
theorem dX0_readFrom_18 : decode cX0_readFrom 18 = .ok (.putfield 37, 3) := by decide +kernel
theorem dX0_readFrom_21 : decode cX0_readFrom 21 = .ok (.iconst 1, 1) := by decide +kernel
theorem dX0_readFrom_22 : decode cX0_readFrom 22 = .ok (.ireturn, 1) := by decide +kernel
theorem dX0_readSpan_0 : decode cX0_readSpan 0 = .ok (.aload_n 0, 1) := by decide +kernel
theorem dX0_readSpan_1 : decode cX0_readSpan 1 = .ok (.iconst 1, 1) := by decide +kernel
theorem dX0_readSpan_2 : decode cX0_readSpan 2 = .ok (.sipush 200, 3) := by decide +kernel
theorem dX0_readSpan_5 : decode cX0_readSpan 5 = .ok (.invokevirtual 51, 3) := by decide +kernel
theorem dX0_readSpan_8 : decode cX0_readSpan 8 = .ok (.ifCond .ne 5, 3) := by decide +kernel
theorem dX0_readSpan_11 : decode cX0_readSpan 11 = .ok (.iconst 0, 1) := by decide +kernel
theorem dX0_readSpan_12 : decode cX0_readSpan 12 = .ok (.ireturn, 1) := by decide +kernel
theorem dX0_readSpan_13 : decode cX0_readSpan 13 = .ok (.aload_n 0, 1) := by decide +kernel
theorem dX0_readSpan_14 : decode cX0_readSpan 14 = .ok (.getfield 28, 3) := by decide +kernel
theorem dX0_readSpan_17 : decode cX0_readSpan 17 = .ok (.bipush 30, 2) := by decide +kernel
theorem dX0_readSpan_19 : decode cX0_readSpan 19 = .ok (.if_icmp .ge 49, 3) := by decide +kernel
theorem dX0_readSpan_22 : decode cX0_readSpan 22 = .ok (.aload_n 0, 1) := by decide +kernel
theorem dX0_readSpan_23 : decode cX0_readSpan 23 = .ok (.getfield 19, 3) := by decide +kernel
theorem dX0_readSpan_26 : decode cX0_readSpan 26 = .ok (.aload_n 0, 1) := by decide +kernel
theorem dX0_readSpan_27 : decode cX0_readSpan 27 = .ok (.getfield 28, 3) := by decide +kernel
theorem dX0_readSpan_30 : decode cX0_readSpan 30 = .ok (.iload_n 1, 1) := by decide +kernel
theorem dX0_readSpan_31 : decode cX0_readSpan 31 = .ok (.iastore, 1) := by decide +kernel
theorem dX0_readSpan_32 : decode cX0_readSpan 32 = .ok (.aload_n 0, 1) := by decide +kernel
theorem dX0_readSpan_33 : decode cX0_readSpan 33 = .ok (.getfield 22, 3) := by decide +kernel
theorem dX0_readSpan_36 : decode cX0_readSpan 36 = .ok (.aload_n 0, 1) := by decide +kernel
theorem dX0_readSpan_37 : decode cX0_readSpan 37 = .ok (.getfield 28, 3) := by decide +kernel
theorem dX0_readSpan_40 : decode cX0_readSpan 40 = .ok (.aload_n 0, 1) := by decide +kernel
theorem dX0_readSpan_41 : decode cX0_readSpan 41 = .ok (.getfield 34, 3) := by decide +kernel
theorem dX0_readSpan_44 : decode cX0_readSpan 44 = .ok (.iastore, 1) := by decide +kernel
theorem dX0_readSpan_45 : decode cX0_readSpan 45 = .ok (.aload_n 0, 1) := by decide +kernel
theorem dX0_readSpan_46 : decode cX0_readSpan 46 = .ok (.getfield 25, 3) := by decide +kernel
theorem dX0_readSpan_49 : decode cX0_readSpan 49 = .ok (.aload_n 0, 1) := by decide +kernel
theorem dX0_readSpan_50 : decode cX0_readSpan 50 = .ok (.getfield 28, 3) := by decide +kernel
theorem dX0_readSpan_53 : decode cX0_readSpan 53 = .ok (.aload_n 0, 1) := by decide +kernel
theorem dX0_readSpan_54 : decode cX0_readSpan 54 = .ok (.getfield 37, 3) := by decide +kernel
theorem dX0_readSpan_57 : decode cX0_readSpan 57 = .ok (.iastore, 1) := by decide +kernel
theorem dX0_readSpan_58 : decode cX0_readSpan 58 = .ok (.aload_n 0, 1) := by decide +kernel
theorem dX0_readSpan_59 : decode cX0_readSpan 59 = .ok (.dup, 1) := by decide +kernel
theorem dX0_readSpan_60 : decode cX0_readSpan 60 = .ok (.getfield 28, 3) := by decide +kernel
theorem dX0_readSpan_63 : decode cX0_readSpan 63 = .ok (.iconst 1, 1) := by decide +kernel
theorem dX0_readSpan_64 : decode cX0_readSpan 64 = .ok (.iadd, 1) := by decide +kernel
theorem dX0_readSpan_65 : decode cX0_readSpan 65 = .ok (.putfield 28, 3) := by decide +kernel
theorem dX0_readSpan_68 : decode cX0_readSpan 68 = .ok (.iconst 1, 1) := by decide +kernel
theorem dX0_readSpan_69 : decode cX0_readSpan 69 = .ok (.ireturn, 1) := by decide +kernel
theorem dX0_readNumber_0 : decode cX0_readNumber 0 = .ok (.aload_n 0, 1) := by decide +kernel
theorem dX0_readNumber_1 : decode cX0_readNumber 1 = .ok (.dup, 1) := by decide +kernel
theorem dX0_readNumber_2 : decode cX0_readNumber 2 = .ok (.getfield 31, 3) := by decide +kernel
theorem dX0_readNumber_5 : decode cX0_readNumber 5 = .ok (.iconst 1, 1) := by decide +kernel
theorem dX0_readNumber_6 : decode cX0_readNumber 6 = .ok (.iadd, 1) := by decide +kernel
theorem dX0_readNumber_7 : decode cX0_readNumber 7 = .ok (.putfield 31, 3) := by decide +kernel
theorem dX0_readNumber_10 : decode cX0_readNumber 10 = .ok (.aload_n 0, 1) := by decide +kernel
theorem dX0_readNumber_11 : decode cX0_readNumber 11 = .ok (.aload_n 0, 1) := by decide +kernel
theorem dX0_readNumber_12 : decode cX0_readNumber 12 = .ok (.invokevirtual 55, 3) := by decide +kernel
theorem dX0_readNumber_15 : decode cX0_readNumber 15 = .ok (.putfield 34, 3) := by decide +kernel
theorem dX0_readNumber_18 : decode cX0_readNumber 18 = .ok (.aload_n 0, 1) := by decide +kernel
theorem dX0_readNumber_19 : decode cX0_readNumber 19 = .ok (.getfield 34, 3) := by decide +kernel
theorem dX0_readNumber_22 : decode cX0_readNumber 22 = .ok (.iload_n 1, 1) := by decide +kernel
theorem dX0_readNumber_23 : decode cX0_readNumber 23 = .ok (.if_icmp .ge 5, 3) := by decide +kernel
theorem dX0_readNumber_26 : decode cX0_readNumber 26 = .ok (.iconst 0, 1) := by decide +kernel
theorem dX0_readNumber_27 : decode cX0_readNumber 27 = .ok (.ireturn, 1) := by decide +kernel
theorem dX0_readNumber_28 : decode cX0_readNumber 28 = .ok (.aload_n 0, 1) := by decide +kernel
theorem dX0_readNumber_29 : decode cX0_readNumber 29 = .ok (.dup, 1) := by decide +kernel
theorem dX0_readNumber_30 : decode cX0_readNumber 30 = .ok (.getfield 31, 3) := by decide +kernel
theorem dX0_readNumber_33 : decode cX0_readNumber 33 = .ok (.iconst 1, 1) := by decide +kernel
theorem dX0_readNumber_34 : decode cX0_readNumber 34 = .ok (.iadd, 1) := by decide +kernel
theorem dX0_readNumber_35 : decode cX0_readNumber 35 = .ok (.putfield 31, 3) := by decide +kernel
theorem dX0_readNumber_38 : decode cX0_readNumber 38 = .ok (.aload_n 0, 1) := by decide +kernel
theorem dX0_readNumber_39 : decode cX0_readNumber 39 = .ok (.getfield 34, 3) := by decide +kernel
theorem dX0_readNumber_42 : decode cX0_readNumber 42 = .ok (.ifCond .le 66, 3) := by decide +kernel
theorem dX0_readNumber_45 : decode cX0_readNumber 45 = .ok (.aload_n 0, 1) := by decide +kernel
theorem dX0_readNumber_46 : decode cX0_readNumber 46 = .ok (.getfield 31, 3) := by decide +kernel
theorem dX0_readNumber_49 : decode cX0_readNumber 49 = .ok (.aload_n 0, 1) := by decide +kernel
theorem dX0_readNumber_50 : decode cX0_readNumber 50 = .ok (.getfield 15, 3) := by decide +kernel
theorem dX0_readNumber_53 : decode cX0_readNumber 53 = .ok (.if_icmp .ge 55, 3) := by decide +kernel
theorem dX0_readNumber_56 : decode cX0_readNumber 56 = .ok (.aload_n 0, 1) := by decide +kernel
theorem dX0_readNumber_57 : decode cX0_readNumber 57 = .ok (.invokevirtual 55, 3) := by decide +kernel
theorem dX0_readNumber_60 : decode cX0_readNumber 60 = .ok (.istore_n 3, 1) := by decide +kernel
theorem dX0_readNumber_61 : decode cX0_readNumber 61 = .ok (.iload_n 3, 1) := by decide +kernel
theorem dX0_readNumber_62 : decode cX0_readNumber 62 = .ok (.ifCond .ge 5, 3) := by decide +kernel
theorem dX0_readNumber_65 : decode cX0_readNumber 65 = .ok (.iconst 1, 1) := by decide +kernel
theorem dX0_readNumber_66 : decode cX0_readNumber 66 = .ok (.ireturn, 1) := by decide +kernel
theorem dX0_readNumber_67 : decode cX0_readNumber 67 = .ok (.aload_n 0, 1) := by decide +kernel
theorem dX0_readNumber_68 : decode cX0_readNumber 68 = .ok (.getfield 34, 3) := by decide +kernel
theorem dX0_readNumber_71 : decode cX0_readNumber 71 = .ok (.bipush 10, 2) := by decide +kernel
theorem dX0_readNumber_73 : decode cX0_readNumber 73 = .ok (.imul, 1) := by decide +kernel
theorem dX0_readNumber_74 : decode cX0_readNumber 74 = .ok (.iload_n 3, 1) := by decide +kernel
theorem dX0_readNumber_75 : decode cX0_readNumber 75 = .ok (.iadd, 1) := by decide +kernel
theorem dX0_readNumber_76 : decode cX0_readNumber 76 = .ok (.iload_n 2, 1) := by decide +kernel
theorem dX0_readNumber_77 : decode cX0_readNumber 77 = .ok (.if_icmp .le 5, 3) := by decide +kernel
theorem dX0_readNumber_80 : decode cX0_readNumber 80 = .ok (.iconst 0, 1) := by decide +kernel
theorem dX0_readNumber_81 : decode cX0_readNumber 81 = .ok (.ireturn, 1) := by decide +kernel
theorem dX0_readNumber_82 : decode cX0_readNumber 82 = .ok (.aload_n 0, 1) := by decide +kernel
theorem dX0_readNumber_83 : decode cX0_readNumber 83 = .ok (.aload_n 0, 1) := by decide +kernel
theorem dX0_readNumber_84 : decode cX0_readNumber 84 = .ok (.getfield 34, 3) := by decide +kernel
theorem dX0_readNumber_87 : decode cX0_readNumber 87 = .ok (.bipush 10, 2) := by decide +kernel
theorem dX0_readNumber_89 : decode cX0_readNumber 89 = .ok (.imul, 1) := by decide +kernel
theorem dX0_readNumber_90 : decode cX0_readNumber 90 = .ok (.iload_n 3, 1) := by decide +kernel
theorem dX0_readNumber_91 : decode cX0_readNumber 91 = .ok (.iadd, 1) := by decide +kernel
theorem dX0_readNumber_92 : decode cX0_readNumber 92 = .ok (.putfield 34, 3) := by decide +kernel
theorem dX0_readNumber_95 : decode cX0_readNumber 95 = .ok (.aload_n 0, 1) := by decide +kernel
theorem dX0_readNumber_96 : decode cX0_readNumber 96 = .ok (.dup, 1) := by decide +kernel
theorem dX0_readNumber_97 : decode cX0_readNumber 97 = .ok (.getfield 31, 3) := by decide +kernel
theorem dX0_readNumber_100 : decode cX0_readNumber 100 = .ok (.iconst 1, 1) := by decide +kernel
theorem dX0_readNumber_101 : decode cX0_readNumber 101 = .ok (.iadd, 1) := by decide +kernel
theorem dX0_readNumber_102 : decode cX0_readNumber 102 = .ok (.putfield 31, 3) := by decide +kernel
theorem dX0_readNumber_105 : decode cX0_readNumber 105 = .ok (.goto (-67), 3) := by decide +kernel
theorem dX0_readNumber_108 : decode cX0_readNumber 108 = .ok (.iconst 1, 1) := by decide +kernel
theorem dX0_readNumber_109 : decode cX0_readNumber 109 = .ok (.ireturn, 1) := by decide +kernel
theorem dX0_digitAtPlace_0 : decode cX0_digitAtPlace 0 = .ok (.aload_n 0, 1) := by decide +kernel
theorem dX0_digitAtPlace_1 : decode cX0_digitAtPlace 1 = .ok (.getfield 31, 3) := by decide +kernel
theorem dX0_digitAtPlace_4 : decode cX0_digitAtPlace 4 = .ok (.aload_n 0, 1) := by decide +kernel
theorem dX0_digitAtPlace_5 : decode cX0_digitAtPlace 5 = .ok (.getfield 15, 3) := by decide +kernel
theorem dX0_digitAtPlace_8 : decode cX0_digitAtPlace 8 = .ok (.if_icmp .lt 5, 3) := by decide +kernel
theorem dX0_digitAtPlace_11 : decode cX0_digitAtPlace 11 = .ok (.iconst (-1), 1) := by decide +kernel
theorem dX0_digitAtPlace_12 : decode cX0_digitAtPlace 12 = .ok (.ireturn, 1) := by decide +kernel
theorem dX0_digitAtPlace_13 : decode cX0_digitAtPlace 13 = .ok (.aload_n 0, 1) := by decide +kernel
theorem dX0_digitAtPlace_14 : decode cX0_digitAtPlace 14 = .ok (.getfield 11, 3) := by decide +kernel
theorem dX0_digitAtPlace_17 : decode cX0_digitAtPlace 17 = .ok (.aload_n 0, 1) := by decide +kernel
theorem dX0_digitAtPlace_18 : decode cX0_digitAtPlace 18 = .ok (.getfield 31, 3) := by decide +kernel
theorem dX0_digitAtPlace_21 : decode cX0_digitAtPlace 21 = .ok (.iaload, 1) := by decide +kernel
theorem dX0_digitAtPlace_22 : decode cX0_digitAtPlace 22 = .ok (.bipush 48, 2) := by decide +kernel
theorem dX0_digitAtPlace_24 : decode cX0_digitAtPlace 24 = .ok (.isub, 1) := by decide +kernel
theorem dX0_digitAtPlace_25 : decode cX0_digitAtPlace 25 = .ok (.istore_n 1, 1) := by decide +kernel
theorem dX0_digitAtPlace_26 : decode cX0_digitAtPlace 26 = .ok (.iload_n 1, 1) := by decide +kernel
theorem dX0_digitAtPlace_27 : decode cX0_digitAtPlace 27 = .ok (.bipush 9, 2) := by decide +kernel
theorem dX0_digitAtPlace_29 : decode cX0_digitAtPlace 29 = .ok (.if_icmp .gt 7, 3) := by decide +kernel
theorem dX0_digitAtPlace_32 : decode cX0_digitAtPlace 32 = .ok (.iload_n 1, 1) := by decide +kernel
theorem dX0_digitAtPlace_33 : decode cX0_digitAtPlace 33 = .ok (.goto 4, 3) := by decide +kernel
theorem dX0_digitAtPlace_36 : decode cX0_digitAtPlace 36 = .ok (.iconst (-1), 1) := by decide +kernel
theorem dX0_digitAtPlace_37 : decode cX0_digitAtPlace 37 = .ok (.ireturn, 1) := by decide +kernel
theorem dX1_init_0 : decode cX1_init 0 = .ok (.aload_n 0, 1) := by decide +kernel
theorem dX1_init_1 : decode cX1_init 1 = .ok (.invokespecial 1, 3) := by decide +kernel
theorem dX1_init_4 : decode cX1_init 4 = .ok (.aload_n 0, 1) := by decide +kernel
theorem dX1_init_5 : decode cX1_init 5 = .ok (.bipush 10, 2) := by decide +kernel
theorem dX1_init_7 : decode cX1_init 7 = .ok (.newarray .int, 2) := by decide +kernel
theorem dX1_init_9 : decode cX1_init 9 = .ok (.putfield 9, 3) := by decide +kernel
theorem dX1_init_12 : decode cX1_init 12 = .ok (.aload_n 0, 1) := by decide +kernel
theorem dX1_init_13 : decode cX1_init 13 = .ok (.bipush 10, 2) := by decide +kernel
theorem dX1_init_15 : decode cX1_init 15 = .ok (.newarray .int, 2) := by decide +kernel
theorem dX1_init_17 : decode cX1_init 17 = .ok (.putfield 13, 3) := by decide +kernel
theorem dX1_init_20 : decode cX1_init 20 = .ok (.aload_n 0, 1) := by decide +kernel
theorem dX1_init_21 : decode cX1_init 21 = .ok (.iconst 0, 1) := by decide +kernel
theorem dX1_init_22 : decode cX1_init 22 = .ok (.putfield 16, 3) := by decide +kernel
theorem dX1_init_25 : decode cX1_init 25 = .ok (.return_, 1) := by decide +kernel
theorem dX1_has_0 : decode cX1_has 0 = .ok (.iload_n 1, 1) := by decide +kernel
theorem dX1_has_1 : decode cX1_has 1 = .ok (.ifCond .lt 15, 3) := by decide +kernel
theorem dX1_has_4 : decode cX1_has 4 = .ok (.iload_n 1, 1) := by decide +kernel
theorem dX1_has_5 : decode cX1_has 5 = .ok (.aload_n 0, 1) := by decide +kernel
theorem dX1_has_6 : decode cX1_has 6 = .ok (.getfield 16, 3) := by decide +kernel
theorem dX1_has_9 : decode cX1_has 9 = .ok (.if_icmp .ge 7, 3) := by decide +kernel
theorem dX1_has_12 : decode cX1_has 12 = .ok (.iconst 1, 1) := by decide +kernel
theorem dX1_has_13 : decode cX1_has 13 = .ok (.goto 4, 3) := by decide +kernel
theorem dX1_has_16 : decode cX1_has 16 = .ok (.iconst 0, 1) := by decide +kernel
theorem dX1_has_17 : decode cX1_has 17 = .ok (.ireturn, 1) := by decide +kernel
theorem dX1_isFull_0 : decode cX1_isFull 0 = .ok (.aload_n 0, 1) := by decide +kernel
theorem dX1_isFull_1 : decode cX1_isFull 1 = .ok (.getfield 16, 3) := by decide +kernel
theorem dX1_isFull_4 : decode cX1_isFull 4 = .ok (.bipush 10, 2) := by decide +kernel
theorem dX1_isFull_6 : decode cX1_isFull 6 = .ok (.if_icmp .lt 7, 3) := by decide +kernel
theorem dX1_isFull_9 : decode cX1_isFull 9 = .ok (.iconst 1, 1) := by decide +kernel
theorem dX1_isFull_10 : decode cX1_isFull 10 = .ok (.goto 4, 3) := by decide +kernel
theorem dX1_isFull_13 : decode cX1_isFull 13 = .ok (.iconst 0, 1) := by decide +kernel
theorem dX1_isFull_14 : decode cX1_isFull 14 = .ok (.ireturn, 1) := by decide +kernel
theorem dX1_add_0 : decode cX1_add 0 = .ok (.aload_n 0, 1) := by decide +kernel
theorem dX1_add_1 : decode cX1_add 1 = .ok (.getfield 9, 3) := by decide +kernel
theorem dX1_add_4 : decode cX1_add 4 = .ok (.aload_n 0, 1) := by decide +kernel
theorem dX1_add_5 : decode cX1_add 5 = .ok (.getfield 16, 3) := by decide +kernel
theorem dX1_add_8 : decode cX1_add 8 = .ok (.iload_n 1, 1) := by decide +kernel
theorem dX1_add_9 : decode cX1_add 9 = .ok (.iastore, 1) := by decide +kernel
theorem dX1_add_10 : decode cX1_add 10 = .ok (.aload_n 0, 1) := by decide +kernel
theorem dX1_add_11 : decode cX1_add 11 = .ok (.getfield 13, 3) := by decide +kernel
theorem dX1_add_14 : decode cX1_add 14 = .ok (.aload_n 0, 1) := by decide +kernel
theorem dX1_add_15 : decode cX1_add 15 = .ok (.getfield 16, 3) := by decide +kernel
theorem dX1_add_18 : decode cX1_add 18 = .ok (.iload_n 2, 1) := by decide +kernel
theorem dX1_add_19 : decode cX1_add 19 = .ok (.iastore, 1) := by decide +kernel
theorem dX1_add_20 : decode cX1_add 20 = .ok (.aload_n 0, 1) := by decide +kernel
theorem dX1_add_21 : decode cX1_add 21 = .ok (.dup, 1) := by decide +kernel
theorem dX1_add_22 : decode cX1_add 22 = .ok (.getfield 16, 3) := by decide +kernel
theorem dX1_add_25 : decode cX1_add 25 = .ok (.iconst 1, 1) := by decide +kernel
theorem dX1_add_26 : decode cX1_add 26 = .ok (.iadd, 1) := by decide +kernel
theorem dX1_add_27 : decode cX1_add 27 = .ok (.putfield 16, 3) := by decide +kernel
theorem dX1_add_30 : decode cX1_add 30 = .ok (.aload_n 0, 1) := by decide +kernel
theorem dX1_add_31 : decode cX1_add 31 = .ok (.getfield 16, 3) := by decide +kernel
theorem dX1_add_34 : decode cX1_add 34 = .ok (.iconst 1, 1) := by decide +kernel
theorem dX1_add_35 : decode cX1_add 35 = .ok (.isub, 1) := by decide +kernel
theorem dX1_add_36 : decode cX1_add 36 = .ok (.ireturn, 1) := by decide +kernel
theorem dX2_init_0 : decode cX2_init 0 = .ok (.aload_n 0, 1) := by decide +kernel
theorem dX2_init_1 : decode cX2_init 1 = .ok (.invokespecial 3, 3) := by decide +kernel
theorem dX2_init_4 : decode cX2_init 4 = .ok (.aload_n 0, 1) := by decide +kernel
theorem dX2_init_5 : decode cX2_init 5 = .ok (.bipush 12, 2) := by decide +kernel
theorem dX2_init_7 : decode cX2_init 7 = .ok (.newarray .int, 2) := by decide +kernel
theorem dX2_init_9 : decode cX2_init 9 = .ok (.putfield 11, 3) := by decide +kernel
theorem dX2_init_12 : decode cX2_init 12 = .ok (.aload_n 0, 1) := by decide +kernel
theorem dX2_init_13 : decode cX2_init 13 = .ok (.bipush 12, 2) := by decide +kernel
theorem dX2_init_15 : decode cX2_init 15 = .ok (.newarray .int, 2) := by decide +kernel
theorem dX2_init_17 : decode cX2_init 17 = .ok (.putfield 15, 3) := by decide +kernel
theorem dX2_init_20 : decode cX2_init 20 = .ok (.aload_n 0, 1) := by decide +kernel
theorem dX2_init_21 : decode cX2_init 21 = .ok (.bipush 12, 2) := by decide +kernel
theorem dX2_init_23 : decode cX2_init 23 = .ok (.newarray .int, 2) := by decide +kernel
theorem dX2_init_25 : decode cX2_init 25 = .ok (.putfield 18, 3) := by decide +kernel
theorem dX2_init_28 : decode cX2_init 28 = .ok (.aload_n 0, 1) := by decide +kernel
theorem dX2_init_29 : decode cX2_init 29 = .ok (.bipush 12, 2) := by decide +kernel
theorem dX2_init_31 : decode cX2_init 31 = .ok (.newarray .int, 2) := by decide +kernel
theorem dX2_init_33 : decode cX2_init 33 = .ok (.putfield 21, 3) := by decide +kernel
theorem dX2_init_36 : decode cX2_init 36 = .ok (.aload_n 0, 1) := by decide +kernel
theorem dX2_init_37 : decode cX2_init 37 = .ok (.bipush 12, 2) := by decide +kernel
theorem dX2_init_39 : decode cX2_init 39 = .ok (.newarray .int, 2) := by decide +kernel
theorem dX2_init_41 : decode cX2_init 41 = .ok (.putfield 24, 3) := by decide +kernel
theorem dX2_init_44 : decode cX2_init 44 = .ok (.aload_n 0, 1) := by decide +kernel
theorem dX2_init_45 : decode cX2_init 45 = .ok (.bipush 12, 2) := by decide +kernel
theorem dX2_init_47 : decode cX2_init 47 = .ok (.newarray .int, 2) := by decide +kernel
theorem dX2_init_49 : decode cX2_init 49 = .ok (.putfield 27, 3) := by decide +kernel
theorem dX2_init_52 : decode cX2_init 52 = .ok (.aload_n 0, 1) := by decide +kernel
theorem dX2_init_53 : decode cX2_init 53 = .ok (.bipush 12, 2) := by decide +kernel
theorem dX2_init_55 : decode cX2_init 55 = .ok (.newarray .int, 2) := by decide +kernel
theorem dX2_init_57 : decode cX2_init 57 = .ok (.putfield 30, 3) := by decide +kernel
theorem dX2_init_60 : decode cX2_init 60 = .ok (.aload_n 0, 1) := by decide +kernel
theorem dX2_init_61 : decode cX2_init 61 = .ok (.bipush 12, 2) := by decide +kernel
theorem dX2_init_63 : decode cX2_init 63 = .ok (.newarray .int, 2) := by decide +kernel
theorem dX2_init_65 : decode cX2_init 65 = .ok (.putfield 33, 3) := by decide +kernel
theorem dX2_init_68 : decode cX2_init 68 = .ok (.aload_n 0, 1) := by decide +kernel
theorem dX2_init_69 : decode cX2_init 69 = .ok (.bipush 12, 2) := by decide +kernel
theorem dX2_init_71 : decode cX2_init 71 = .ok (.newarray .int, 2) := by decide +kernel
theorem dX2_init_73 : decode cX2_init 73 = .ok (.putfield 36, 3) := by decide +kernel
theorem dX2_init_76 : decode cX2_init 76 = .ok (.aload_n 0, 1) := by decide +kernel
theorem dX2_init_77 : decode cX2_init 77 = .ok (.bipush 12, 2) := by decide +kernel
theorem dX2_init_79 : decode cX2_init 79 = .ok (.newarray .int, 2) := by decide +kernel
theorem dX2_init_81 : decode cX2_init 81 = .ok (.putfield 39, 3) := by decide +kernel
theorem dX2_init_84 : decode cX2_init 84 = .ok (.aload_n 0, 1) := by decide +kernel
theorem dX2_init_85 : decode cX2_init 85 = .ok (.bipush 12, 2) := by decide +kernel
theorem dX2_init_87 : decode cX2_init 87 = .ok (.newarray .int, 2) := by decide +kernel
theorem dX2_init_89 : decode cX2_init 89 = .ok (.putfield 42, 3) := by decide +kernel
theorem dX2_init_92 : decode cX2_init 92 = .ok (.aload_n 0, 1) := by decide +kernel
theorem dX2_init_93 : decode cX2_init 93 = .ok (.iconst 0, 1) := by decide +kernel
theorem dX2_init_94 : decode cX2_init 94 = .ok (.putfield 45, 3) := by decide +kernel
theorem dX2_init_97 : decode cX2_init 97 = .ok (.return_, 1) := by decide +kernel
theorem dX2_has_0 : decode cX2_has 0 = .ok (.iload_n 1, 1) := by decide +kernel
theorem dX2_has_1 : decode cX2_has 1 = .ok (.ifCond .lt 15, 3) := by decide +kernel
theorem dX2_has_4 : decode cX2_has 4 = .ok (.iload_n 1, 1) := by decide +kernel
theorem dX2_has_5 : decode cX2_has 5 = .ok (.aload_n 0, 1) := by decide +kernel
theorem dX2_has_6 : decode cX2_has 6 = .ok (.getfield 45, 3) := by decide +kernel
theorem dX2_has_9 : decode cX2_has 9 = .ok (.if_icmp .ge 7, 3) := by decide +kernel
theorem dX2_has_12 : decode cX2_has 12 = .ok (.iconst 1, 1) := by decide +kernel
theorem dX2_has_13 : decode cX2_has 13 = .ok (.goto 4, 3) := by decide +kernel
theorem dX2_has_16 : decode cX2_has 16 = .ok (.iconst 0, 1) := by decide +kernel
theorem dX2_has_17 : decode cX2_has 17 = .ok (.ireturn, 1) := by decide +kernel
theorem dX2_isFull_0 : decode cX2_isFull 0 = .ok (.aload_n 0, 1) := by decide +kernel
theorem dX2_isFull_1 : decode cX2_isFull 1 = .ok (.getfield 45, 3) := by decide +kernel
theorem dX2_isFull_4 : decode cX2_isFull 4 = .ok (.bipush 12, 2) := by decide +kernel
theorem dX2_isFull_6 : decode cX2_isFull 6 = .ok (.if_icmp .lt 7, 3) := by decide +kernel
theorem dX2_isFull_9 : decode cX2_isFull 9 = .ok (.iconst 1, 1) := by decide +kernel
theorem dX2_isFull_10 : decode cX2_isFull 10 = .ok (.goto 4, 3) := by decide +kernel
theorem dX2_isFull_13 : decode cX2_isFull 13 = .ok (.iconst 0, 1) := by decide +kernel
theorem dX2_isFull_14 : decode cX2_isFull 14 = .ok (.ireturn, 1) := by decide +kernel
theorem dX2_setBody_0 : decode cX2_setBody 0 = .ok (.aload_n 0, 1) := by decide +kernel
theorem dX2_setBody_1 : decode cX2_setBody 1 = .ok (.getfield 11, 3) := by decide +kernel
theorem dX2_setBody_4 : decode cX2_setBody 4 = .ok (.aload_n 0, 1) := by decide +kernel
theorem dX2_setBody_5 : decode cX2_setBody 5 = .ok (.getfield 45, 3) := by decide +kernel
theorem dX2_setBody_8 : decode cX2_setBody 8 = .ok (.iload_n 1, 1) := by decide +kernel
theorem dX2_setBody_9 : decode cX2_setBody 9 = .ok (.iastore, 1) := by decide +kernel
theorem dX2_setBody_10 : decode cX2_setBody 10 = .ok (.aload_n 0, 1) := by decide +kernel
theorem dX2_setBody_11 : decode cX2_setBody 11 = .ok (.getfield 15, 3) := by decide +kernel
theorem dX2_setBody_14 : decode cX2_setBody 14 = .ok (.aload_n 0, 1) := by decide +kernel
theorem dX2_setBody_15 : decode cX2_setBody 15 = .ok (.getfield 45, 3) := by decide +kernel
theorem dX2_setBody_18 : decode cX2_setBody 18 = .ok (.iload_n 2, 1) := by decide +kernel
theorem dX2_setBody_19 : decode cX2_setBody 19 = .ok (.iastore, 1) := by decide +kernel
theorem dX2_setBody_20 : decode cX2_setBody 20 = .ok (.aload_n 0, 1) := by decide +kernel
theorem dX2_setBody_21 : decode cX2_setBody 21 = .ok (.getfield 18, 3) := by decide +kernel
theorem dX2_setBody_24 : decode cX2_setBody 24 = .ok (.aload_n 0, 1) := by decide +kernel
theorem dX2_setBody_25 : decode cX2_setBody 25 = .ok (.getfield 45, 3) := by decide +kernel
theorem dX2_setBody_28 : decode cX2_setBody 28 = .ok (.iload_n 3, 1) := by decide +kernel
theorem dX2_setBody_29 : decode cX2_setBody 29 = .ok (.iastore, 1) := by decide +kernel
theorem dX2_setBody_30 : decode cX2_setBody 30 = .ok (.aload_n 0, 1) := by decide +kernel
theorem dX2_setBody_31 : decode cX2_setBody 31 = .ok (.getfield 21, 3) := by decide +kernel
theorem dX2_setBody_34 : decode cX2_setBody 34 = .ok (.aload_n 0, 1) := by decide +kernel
theorem dX2_setBody_35 : decode cX2_setBody 35 = .ok (.getfield 45, 3) := by decide +kernel
theorem dX2_setBody_38 : decode cX2_setBody 38 = .ok (.iload 4, 2) := by decide +kernel
theorem dX2_setBody_40 : decode cX2_setBody 40 = .ok (.iastore, 1) := by decide +kernel
theorem dX2_setBody_41 : decode cX2_setBody 41 = .ok (.aload_n 0, 1) := by decide +kernel
theorem dX2_setBody_42 : decode cX2_setBody 42 = .ok (.getfield 24, 3) := by decide +kernel
theorem dX2_setBody_45 : decode cX2_setBody 45 = .ok (.aload_n 0, 1) := by decide +kernel
theorem dX2_setBody_46 : decode cX2_setBody 46 = .ok (.getfield 45, 3) := by decide +kernel
theorem dX2_setBody_49 : decode cX2_setBody 49 = .ok (.iload 5, 2) := by decide +kernel
theorem dX2_setBody_51 : decode cX2_setBody 51 = .ok (.iastore, 1) := by decide +kernel
theorem dX2_setBody_52 : decode cX2_setBody 52 = .ok (.return_, 1) := by decide +kernel
theorem dX2_setPlace_0 : decode cX2_setPlace 0 = .ok (.aload_n 0, 1) := by decide +kernel
theorem dX2_setPlace_1 : decode cX2_setPlace 1 = .ok (.getfield 27, 3) := by decide +kernel
theorem dX2_setPlace_4 : decode cX2_setPlace 4 = .ok (.aload_n 0, 1) := by decide +kernel
theorem dX2_setPlace_5 : decode cX2_setPlace 5 = .ok (.getfield 45, 3) := by decide +kernel
theorem dX2_setPlace_8 : decode cX2_setPlace 8 = .ok (.iload_n 1, 1) := by decide +kernel
theorem dX2_setPlace_9 : decode cX2_setPlace 9 = .ok (.iastore, 1) := by decide +kernel
theorem dX2_setPlace_10 : decode cX2_setPlace 10 = .ok (.aload_n 0, 1) := by decide +kernel
theorem dX2_setPlace_11 : decode cX2_setPlace 11 = .ok (.getfield 30, 3) := by decide +kernel
theorem dX2_setPlace_14 : decode cX2_setPlace 14 = .ok (.aload_n 0, 1) := by decide +kernel
theorem dX2_setPlace_15 : decode cX2_setPlace 15 = .ok (.getfield 45, 3) := by decide +kernel
theorem dX2_setPlace_18 : decode cX2_setPlace 18 = .ok (.iload_n 2, 1) := by decide +kernel
theorem dX2_setPlace_19 : decode cX2_setPlace 19 = .ok (.iastore, 1) := by decide +kernel
theorem dX2_setPlace_20 : decode cX2_setPlace 20 = .ok (.aload_n 0, 1) := by decide +kernel
theorem dX2_setPlace_21 : decode cX2_setPlace 21 = .ok (.getfield 33, 3) := by decide +kernel
theorem dX2_setPlace_24 : decode cX2_setPlace 24 = .ok (.aload_n 0, 1) := by decide +kernel
theorem dX2_setPlace_25 : decode cX2_setPlace 25 = .ok (.getfield 45, 3) := by decide +kernel
theorem dX2_setPlace_28 : decode cX2_setPlace 28 = .ok (.iload_n 3, 1) := by decide +kernel
theorem dX2_setPlace_29 : decode cX2_setPlace 29 = .ok (.iastore, 1) := by decide +kernel
theorem dX2_setPlace_30 : decode cX2_setPlace 30 = .ok (.aload_n 0, 1) := by decide +kernel
theorem dX2_setPlace_31 : decode cX2_setPlace 31 = .ok (.getfield 36, 3) := by decide +kernel
theorem dX2_setPlace_34 : decode cX2_setPlace 34 = .ok (.aload_n 0, 1) := by decide +kernel
theorem dX2_setPlace_35 : decode cX2_setPlace 35 = .ok (.getfield 45, 3) := by decide +kernel
theorem dX2_setPlace_38 : decode cX2_setPlace 38 = .ok (.iload 4, 2) := by decide +kernel
theorem dX2_setPlace_40 : decode cX2_setPlace 40 = .ok (.iastore, 1) := by decide +kernel
theorem dX2_setPlace_41 : decode cX2_setPlace 41 = .ok (.return_, 1) := by decide +kernel
theorem dX2_add_0 : decode cX2_add 0 = .ok (.aload_n 0, 1) := by decide +kernel
theorem dX2_add_1 : decode cX2_add 1 = .ok (.getfield 39, 3) := by decide +kernel
theorem dX2_add_4 : decode cX2_add 4 = .ok (.aload_n 0, 1) := by decide +kernel
theorem dX2_add_5 : decode cX2_add 5 = .ok (.getfield 45, 3) := by decide +kernel
theorem dX2_add_8 : decode cX2_add 8 = .ok (.iconst 0, 1) := by decide +kernel
theorem dX2_add_9 : decode cX2_add 9 = .ok (.iastore, 1) := by decide +kernel
theorem dX2_add_10 : decode cX2_add 10 = .ok (.aload_n 0, 1) := by decide +kernel
theorem dX2_add_11 : decode cX2_add 11 = .ok (.dup, 1) := by decide +kernel
theorem dX2_add_12 : decode cX2_add 12 = .ok (.getfield 45, 3) := by decide +kernel
theorem dX2_add_15 : decode cX2_add 15 = .ok (.iconst 1, 1) := by decide +kernel
theorem dX2_add_16 : decode cX2_add 16 = .ok (.iadd, 1) := by decide +kernel
theorem dX2_add_17 : decode cX2_add 17 = .ok (.putfield 45, 3) := by decide +kernel
theorem dX2_add_20 : decode cX2_add 20 = .ok (.aload_n 0, 1) := by decide +kernel
theorem dX2_add_21 : decode cX2_add 21 = .ok (.getfield 45, 3) := by decide +kernel
theorem dX2_add_24 : decode cX2_add 24 = .ok (.iconst 1, 1) := by decide +kernel
theorem dX2_add_25 : decode cX2_add 25 = .ok (.isub, 1) := by decide +kernel
theorem dX2_add_26 : decode cX2_add 26 = .ok (.ireturn, 1) := by decide +kernel
theorem dX2_openPull_0 : decode cX2_openPull 0 = .ok (.aload_n 0, 1) := by decide +kernel
theorem dX2_openPull_1 : decode cX2_openPull 1 = .ok (.getfield 21, 3) := by decide +kernel
theorem dX2_openPull_4 : decode cX2_openPull 4 = .ok (.iload_n 1, 1) := by decide +kernel
theorem dX2_openPull_5 : decode cX2_openPull 5 = .ok (.iaload, 1) := by decide +kernel
theorem dX2_openPull_6 : decode cX2_openPull 6 = .ok (.istore_n 2, 1) := by decide +kernel
theorem dX2_openPull_7 : decode cX2_openPull 7 = .ok (.iload_n 2, 1) := by decide +kernel
theorem dX2_openPull_8 : decode cX2_openPull 8 = .ok (.ifCond .le 25, 3) := by decide +kernel
theorem dX2_openPull_11 : decode cX2_openPull 11 = .ok (.aload_n 0, 1) := by decide +kernel
theorem dX2_openPull_12 : decode cX2_openPull 12 = .ok (.getfield 18, 3) := by decide +kernel
theorem dX2_openPull_15 : decode cX2_openPull 15 = .ok (.iload_n 1, 1) := by decide +kernel
theorem dX2_openPull_16 : decode cX2_openPull 16 = .ok (.iaload, 1) := by decide +kernel
theorem dX2_openPull_17 : decode cX2_openPull 17 = .ok (.getstatic 49, 3) := by decide +kernel
theorem dX2_openPull_20 : decode cX2_openPull 20 = .ok (.aload_n 0, 1) := by decide +kernel
theorem dX2_openPull_21 : decode cX2_openPull 21 = .ok (.getfield 15, 3) := by decide +kernel
theorem dX2_openPull_24 : decode cX2_openPull 24 = .ok (.iload_n 1, 1) := by decide +kernel
theorem dX2_openPull_25 : decode cX2_openPull 25 = .ok (.iaload, 1) := by decide +kernel
theorem dX2_openPull_26 : decode cX2_openPull 26 = .ok (.iaload, 1) := by decide +kernel
theorem dX2_openPull_27 : decode cX2_openPull 27 = .ok (.imul, 1) := by decide +kernel
theorem dX2_openPull_28 : decode cX2_openPull 28 = .ok (.iload_n 2, 1) := by decide +kernel
theorem dX2_openPull_29 : decode cX2_openPull 29 = .ok (.idiv, 1) := by decide +kernel
theorem dX2_openPull_30 : decode cX2_openPull 30 = .ok (.goto 4, 3) := by decide +kernel
theorem dX2_openPull_33 : decode cX2_openPull 33 = .ok (.iconst 0, 1) := by decide +kernel
theorem dX2_openPull_34 : decode cX2_openPull 34 = .ok (.ireturn, 1) := by decide +kernel
theorem dX2_wayBetween_0 : decode cX2_wayBetween 0 = .ok (.aload_n 0, 1) := by decide +kernel
theorem dX2_wayBetween_1 : decode cX2_wayBetween 1 = .ok (.getfield 27, 3) := by decide +kernel
theorem dX2_wayBetween_4 : decode cX2_wayBetween 4 = .ok (.iload_n 1, 1) := by decide +kernel
theorem dX2_wayBetween_5 : decode cX2_wayBetween 5 = .ok (.iaload, 1) := by decide +kernel
theorem dX2_wayBetween_6 : decode cX2_wayBetween 6 = .ok (.aload_n 0, 1) := by decide +kernel
theorem dX2_wayBetween_7 : decode cX2_wayBetween 7 = .ok (.getfield 27, 3) := by decide +kernel
theorem dX2_wayBetween_10 : decode cX2_wayBetween 10 = .ok (.iload_n 2, 1) := by decide +kernel
theorem dX2_wayBetween_11 : decode cX2_wayBetween 11 = .ok (.iaload, 1) := by decide +kernel
theorem dX2_wayBetween_12 : decode cX2_wayBetween 12 = .ok (.isub, 1) := by decide +kernel
theorem dX2_wayBetween_13 : decode cX2_wayBetween 13 = .ok (.invokestatic 52, 3) := by decide +kernel
theorem dX2_wayBetween_16 : decode cX2_wayBetween 16 = .ok (.aload_n 0, 1) := by decide +kernel
theorem dX2_wayBetween_17 : decode cX2_wayBetween 17 = .ok (.getfield 30, 3) := by decide +kernel
theorem dX2_wayBetween_20 : decode cX2_wayBetween 20 = .ok (.iload_n 1, 1) := by decide +kernel
theorem dX2_wayBetween_21 : decode cX2_wayBetween 21 = .ok (.iaload, 1) := by decide +kernel
theorem dX2_wayBetween_22 : decode cX2_wayBetween 22 = .ok (.aload_n 0, 1) := by decide +kernel
theorem dX2_wayBetween_23 : decode cX2_wayBetween 23 = .ok (.getfield 30, 3) := by decide +kernel
theorem dX2_wayBetween_26 : decode cX2_wayBetween 26 = .ok (.iload_n 2, 1) := by decide +kernel
theorem dX2_wayBetween_27 : decode cX2_wayBetween 27 = .ok (.iaload, 1) := by decide +kernel
theorem dX2_wayBetween_28 : decode cX2_wayBetween 28 = .ok (.isub, 1) := by decide +kernel
theorem dX2_wayBetween_29 : decode cX2_wayBetween 29 = .ok (.invokestatic 52, 3) := by decide +kernel
theorem dX2_wayBetween_32 : decode cX2_wayBetween 32 = .ok (.iadd, 1) := by decide +kernel
theorem dX2_wayBetween_33 : decode cX2_wayBetween 33 = .ok (.ireturn, 1) := by decide +kernel
theorem dX2_waitingAheadOf_0 : decode cX2_waitingAheadOf 0 = .ok (.iconst 0, 1) := by decide +kernel
theorem dX2_waitingAheadOf_1 : decode cX2_waitingAheadOf 1 = .ok (.istore_n 2, 1) := by decide +kernel
theorem dX2_waitingAheadOf_2 : decode cX2_waitingAheadOf 2 = .ok (.iconst 0, 1) := by decide +kernel
theorem dX2_waitingAheadOf_3 : decode cX2_waitingAheadOf 3 = .ok (.istore_n 3, 1) := by decide +kernel
theorem dX2_waitingAheadOf_4 : decode cX2_waitingAheadOf 4 = .ok (.iload_n 3, 1) := by decide +kernel
theorem dX2_waitingAheadOf_5 : decode cX2_waitingAheadOf 5 = .ok (.aload_n 0, 1) := by decide +kernel
theorem dX2_waitingAheadOf_6 : decode cX2_waitingAheadOf 6 = .ok (.getfield 45, 3) := by decide +kernel
theorem dX2_waitingAheadOf_9 : decode cX2_waitingAheadOf 9 = .ok (.if_icmp .ge 70, 3) := by decide +kernel
theorem dX2_waitingAheadOf_12 : decode cX2_waitingAheadOf 12 = .ok (.aload_n 0, 1) := by decide +kernel
theorem dX2_waitingAheadOf_13 : decode cX2_waitingAheadOf 13 = .ok (.getfield 42, 3) := by decide +kernel
theorem dX2_waitingAheadOf_16 : decode cX2_waitingAheadOf 16 = .ok (.iload_n 3, 1) := by decide +kernel
theorem dX2_waitingAheadOf_17 : decode cX2_waitingAheadOf 17 = .ok (.iaload, 1) := by decide +kernel
theorem dX2_waitingAheadOf_18 : decode cX2_waitingAheadOf 18 = .ok (.aload_n 0, 1) := by decide +kernel
theorem dX2_waitingAheadOf_19 : decode cX2_waitingAheadOf 19 = .ok (.getfield 42, 3) := by decide +kernel
theorem dX2_waitingAheadOf_22 : decode cX2_waitingAheadOf 22 = .ok (.iload_n 1, 1) := by decide +kernel
theorem dX2_waitingAheadOf_23 : decode cX2_waitingAheadOf 23 = .ok (.iaload, 1) := by decide +kernel
theorem dX2_waitingAheadOf_24 : decode cX2_waitingAheadOf 24 = .ok (.if_icmp .lt 23, 3) := by decide +kernel
theorem dX2_waitingAheadOf_27 : decode cX2_waitingAheadOf 27 = .ok (.aload_n 0, 1) := by decide +kernel
theorem dX2_waitingAheadOf_28 : decode cX2_waitingAheadOf 28 = .ok (.getfield 42, 3) := by decide +kernel
theorem dX2_waitingAheadOf_31 : decode cX2_waitingAheadOf 31 = .ok (.iload_n 3, 1) := by decide +kernel
theorem dX2_waitingAheadOf_32 : decode cX2_waitingAheadOf 32 = .ok (.iaload, 1) := by decide +kernel
theorem dX2_waitingAheadOf_33 : decode cX2_waitingAheadOf 33 = .ok (.aload_n 0, 1) := by decide +kernel
theorem dX2_waitingAheadOf_34 : decode cX2_waitingAheadOf 34 = .ok (.getfield 42, 3) := by decide +kernel
theorem dX2_waitingAheadOf_37 : decode cX2_waitingAheadOf 37 = .ok (.iload_n 1, 1) := by decide +kernel
theorem dX2_waitingAheadOf_38 : decode cX2_waitingAheadOf 38 = .ok (.iaload, 1) := by decide +kernel
theorem dX2_waitingAheadOf_39 : decode cX2_waitingAheadOf 39 = .ok (.if_icmp .ne 12, 3) := by decide +kernel
theorem dX2_waitingAheadOf_42 : decode cX2_waitingAheadOf 42 = .ok (.iload_n 3, 1) := by decide +kernel
theorem dX2_waitingAheadOf_43 : decode cX2_waitingAheadOf 43 = .ok (.iload_n 1, 1) := by decide +kernel
theorem dX2_waitingAheadOf_44 : decode cX2_waitingAheadOf 44 = .ok (.if_icmp .ge 7, 3) := by decide +kernel
theorem dX2_waitingAheadOf_47 : decode cX2_waitingAheadOf 47 = .ok (.iconst 1, 1) := by decide +kernel
theorem dX2_waitingAheadOf_48 : decode cX2_waitingAheadOf 48 = .ok (.goto 4, 3) := by decide +kernel
theorem dX2_waitingAheadOf_51 : decode cX2_waitingAheadOf 51 = .ok (.iconst 0, 1) := by decide +kernel
theorem dX2_waitingAheadOf_52 : decode cX2_waitingAheadOf 52 = .ok (.istore 4, 2) := by decide +kernel
theorem dX2_waitingAheadOf_54 : decode cX2_waitingAheadOf 54 = .ok (.aload_n 0, 1) := by decide +kernel
theorem dX2_waitingAheadOf_55 : decode cX2_waitingAheadOf 55 = .ok (.getfield 42, 3) := by decide +kernel
theorem dX2_waitingAheadOf_58 : decode cX2_waitingAheadOf 58 = .ok (.iload_n 3, 1) := by decide +kernel
theorem dX2_waitingAheadOf_59 : decode cX2_waitingAheadOf 59 = .ok (.iaload, 1) := by decide +kernel
theorem dX2_waitingAheadOf_60 : decode cX2_waitingAheadOf 60 = .ok (.bipush (-9), 2) := by decide +kernel
theorem dX2_waitingAheadOf_62 : decode cX2_waitingAheadOf 62 = .ok (.if_icmp .eq 11, 3) := by decide +kernel
theorem dX2_waitingAheadOf_65 : decode cX2_waitingAheadOf 65 = .ok (.iload 4, 2) := by decide +kernel
theorem dX2_waitingAheadOf_67 : decode cX2_waitingAheadOf 67 = .ok (.ifCond .eq 6, 3) := by decide +kernel
theorem dX2_waitingAheadOf_70 : decode cX2_waitingAheadOf 70 = .ok (.iinc 2 1, 3) := by decide +kernel
theorem dX2_waitingAheadOf_73 : decode cX2_waitingAheadOf 73 = .ok (.iinc 3 1, 3) := by decide +kernel
theorem dX2_waitingAheadOf_76 : decode cX2_waitingAheadOf 76 = .ok (.goto (-72), 3) := by decide +kernel
theorem dX2_waitingAheadOf_79 : decode cX2_waitingAheadOf 79 = .ok (.iload_n 2, 1) := by decide +kernel
theorem dX2_waitingAheadOf_80 : decode cX2_waitingAheadOf 80 = .ok (.ireturn, 1) := by decide +kernel
theorem dX3_init_0 : decode cX3_init 0 = .ok (.aload_n 0, 1) := by decide +kernel
theorem dX3_init_1 : decode cX3_init 1 = .ok (.invokespecial 3, 3) := by decide +kernel
theorem dX3_init_4 : decode cX3_init 4 = .ok (.aload_n 0, 1) := by decide +kernel
theorem dX3_init_5 : decode cX3_init 5 = .ok (.bipush 6, 2) := by decide +kernel
theorem dX3_init_7 : decode cX3_init 7 = .ok (.newarray .int, 2) := by decide +kernel
theorem dX3_init_9 : decode cX3_init 9 = .ok (.putfield 11, 3) := by decide +kernel
theorem dX3_init_12 : decode cX3_init 12 = .ok (.aload_n 0, 1) := by decide +kernel
theorem dX3_init_13 : decode cX3_init 13 = .ok (.bipush 7, 2) := by decide +kernel
theorem dX3_init_15 : decode cX3_init 15 = .ok (.newarray .int, 2) := by decide +kernel
theorem dX3_init_17 : decode cX3_init 17 = .ok (.putfield 15, 3) := by decide +kernel
theorem dX3_init_20 : decode cX3_init 20 = .ok (.aload_n 0, 1) := by decide +kernel
theorem dX3_init_21 : decode cX3_init 21 = .ok (.sipush 180, 3) := by decide +kernel
theorem dX3_init_24 : decode cX3_init 24 = .ok (.newarray .int, 2) := by decide +kernel
theorem dX3_init_26 : decode cX3_init 26 = .ok (.putfield 20, 3) := by decide +kernel
theorem dX3_init_29 : decode cX3_init 29 = .ok (.aload_n 0, 1) := by decide +kernel
theorem dX3_init_30 : decode cX3_init 30 = .ok (.sipush 180, 3) := by decide +kernel
theorem dX3_init_33 : decode cX3_init 33 = .ok (.newarray .int, 2) := by decide +kernel
theorem dX3_init_35 : decode cX3_init 35 = .ok (.putfield 23, 3) := by decide +kernel
theorem dX3_init_38 : decode cX3_init 38 = .ok (.aload_n 0, 1) := by decide +kernel
theorem dX3_init_39 : decode cX3_init 39 = .ok (.sipush 180, 3) := by decide +kernel
theorem dX3_init_42 : decode cX3_init 42 = .ok (.newarray .int, 2) := by decide +kernel
theorem dX3_init_44 : decode cX3_init 44 = .ok (.putfield 26, 3) := by decide +kernel
theorem dX3_init_47 : decode cX3_init 47 = .ok (.aload_n 0, 1) := by decide +kernel
theorem dX3_init_48 : decode cX3_init 48 = .ok (.iconst 0, 1) := by decide +kernel
theorem dX3_init_49 : decode cX3_init 49 = .ok (.putfield 29, 3) := by decide +kernel
theorem dX3_init_52 : decode cX3_init 52 = .ok (.return_, 1) := by decide +kernel
theorem dX3_isFull_0 : decode cX3_isFull 0 = .ok (.aload_n 0, 1) := by decide +kernel
theorem dX3_isFull_1 : decode cX3_isFull 1 = .ok (.getfield 29, 3) := by decide +kernel
theorem dX3_isFull_4 : decode cX3_isFull 4 = .ok (.bipush 6, 2) := by decide +kernel
theorem dX3_isFull_6 : decode cX3_isFull 6 = .ok (.if_icmp .lt 7, 3) := by decide +kernel
theorem dX3_isFull_9 : decode cX3_isFull 9 = .ok (.iconst 1, 1) := by decide +kernel
theorem dX3_isFull_10 : decode cX3_isFull 10 = .ok (.goto 4, 3) := by decide +kernel
theorem dX3_isFull_13 : decode cX3_isFull 13 = .ok (.iconst 0, 1) := by decide +kernel
theorem dX3_isFull_14 : decode cX3_isFull 14 = .ok (.ireturn, 1) := by decide +kernel
theorem dX3_add_0 : decode cX3_add 0 = .ok (.aload_n 0, 1) := by decide +kernel
theorem dX3_add_1 : decode cX3_add 1 = .ok (.getfield 15, 3) := by decide +kernel
theorem dX3_add_4 : decode cX3_add 4 = .ok (.aload_n 0, 1) := by decide +kernel
theorem dX3_add_5 : decode cX3_add 5 = .ok (.getfield 29, 3) := by decide +kernel
theorem dX3_add_8 : decode cX3_add 8 = .ok (.iaload, 1) := by decide +kernel
theorem dX3_add_9 : decode cX3_add 9 = .ok (.istore_n 3, 1) := by decide +kernel
theorem dX3_add_10 : decode cX3_add 10 = .ok (.iconst 0, 1) := by decide +kernel
theorem dX3_add_11 : decode cX3_add 11 = .ok (.istore 4, 2) := by decide +kernel
theorem dX3_add_13 : decode cX3_add 13 = .ok (.iload 4, 2) := by decide +kernel
theorem dX3_add_15 : decode cX3_add 15 = .ok (.aload_n 1, 1) := by decide +kernel
theorem dX3_add_16 : decode cX3_add 16 = .ok (.getfield 33, 3) := by decide +kernel
theorem dX3_add_19 : decode cX3_add 19 = .ok (.if_icmp .ge 60, 3) := by decide +kernel
theorem dX3_add_22 : decode cX3_add 22 = .ok (.iload_n 3, 1) := by decide +kernel
theorem dX3_add_23 : decode cX3_add 23 = .ok (.aload_n 0, 1) := by decide +kernel
theorem dX3_add_24 : decode cX3_add 24 = .ok (.getfield 20, 3) := by decide +kernel
theorem dX3_add_27 : decode cX3_add 27 = .ok (.arraylength, 1) := by decide +kernel
theorem dX3_add_28 : decode cX3_add 28 = .ok (.if_icmp .ge 51, 3) := by decide +kernel
theorem dX3_add_31 : decode cX3_add 31 = .ok (.aload_n 0, 1) := by decide +kernel
theorem dX3_add_32 : decode cX3_add 32 = .ok (.getfield 20, 3) := by decide +kernel
theorem dX3_add_35 : decode cX3_add 35 = .ok (.iload_n 3, 1) := by decide +kernel
theorem dX3_add_36 : decode cX3_add 36 = .ok (.aload_n 1, 1) := by decide +kernel
theorem dX3_add_37 : decode cX3_add 37 = .ok (.getfield 36, 3) := by decide +kernel
theorem dX3_add_40 : decode cX3_add 40 = .ok (.iload 4, 2) := by decide +kernel
theorem dX3_add_42 : decode cX3_add 42 = .ok (.iaload, 1) := by decide +kernel
theorem dX3_add_43 : decode cX3_add 43 = .ok (.iastore, 1) := by decide +kernel
theorem dX3_add_44 : decode cX3_add 44 = .ok (.aload_n 0, 1) := by decide +kernel
theorem dX3_add_45 : decode cX3_add 45 = .ok (.getfield 23, 3) := by decide +kernel
theorem dX3_add_48 : decode cX3_add 48 = .ok (.iload_n 3, 1) := by decide +kernel
theorem dX3_add_49 : decode cX3_add 49 = .ok (.aload_n 1, 1) := by decide +kernel
theorem dX3_add_50 : decode cX3_add 50 = .ok (.getfield 37, 3) := by decide +kernel
theorem dX3_add_53 : decode cX3_add 53 = .ok (.iload 4, 2) := by decide +kernel
theorem dX3_add_55 : decode cX3_add 55 = .ok (.iaload, 1) := by decide +kernel
theorem dX3_add_56 : decode cX3_add 56 = .ok (.iastore, 1) := by decide +kernel
theorem dX3_add_57 : decode cX3_add 57 = .ok (.aload_n 0, 1) := by decide +kernel
theorem dX3_add_58 : decode cX3_add 58 = .ok (.getfield 26, 3) := by decide +kernel
theorem dX3_add_61 : decode cX3_add 61 = .ok (.iload_n 3, 1) := by decide +kernel
theorem dX3_add_62 : decode cX3_add 62 = .ok (.aload_n 1, 1) := by decide +kernel
theorem dX3_add_63 : decode cX3_add 63 = .ok (.getfield 38, 3) := by decide +kernel
theorem dX3_add_66 : decode cX3_add 66 = .ok (.iload 4, 2) := by decide +kernel
theorem dX3_add_68 : decode cX3_add 68 = .ok (.iaload, 1) := by decide +kernel
theorem dX3_add_69 : decode cX3_add 69 = .ok (.iastore, 1) := by decide +kernel
theorem dX3_add_70 : decode cX3_add 70 = .ok (.iinc 3 1, 3) := by decide +kernel
theorem dX3_add_73 : decode cX3_add 73 = .ok (.iinc 4 1, 3) := by decide +kernel
theorem dX3_add_76 : decode cX3_add 76 = .ok (.goto (-63), 3) := by decide +kernel
theorem dX3_add_79 : decode cX3_add 79 = .ok (.aload_n 0, 1) := by decide +kernel
theorem dX3_add_80 : decode cX3_add 80 = .ok (.getfield 11, 3) := by decide +kernel
theorem dX3_add_83 : decode cX3_add 83 = .ok (.aload_n 0, 1) := by decide +kernel
theorem dX3_add_84 : decode cX3_add 84 = .ok (.getfield 29, 3) := by decide +kernel
theorem dX3_add_87 : decode cX3_add 87 = .ok (.iload_n 2, 1) := by decide +kernel
theorem dX3_add_88 : decode cX3_add 88 = .ok (.iastore, 1) := by decide +kernel
theorem dX3_add_89 : decode cX3_add 89 = .ok (.aload_n 0, 1) := by decide +kernel
theorem dX3_add_90 : decode cX3_add 90 = .ok (.dup, 1) := by decide +kernel
theorem dX3_add_91 : decode cX3_add 91 = .ok (.getfield 29, 3) := by decide +kernel
theorem dX3_add_94 : decode cX3_add 94 = .ok (.iconst 1, 1) := by decide +kernel
theorem dX3_add_95 : decode cX3_add 95 = .ok (.iadd, 1) := by decide +kernel
theorem dX3_add_96 : decode cX3_add 96 = .ok (.putfield 29, 3) := by decide +kernel
theorem dX3_add_99 : decode cX3_add 99 = .ok (.aload_n 0, 1) := by decide +kernel
theorem dX3_add_100 : decode cX3_add 100 = .ok (.getfield 15, 3) := by decide +kernel
theorem dX3_add_103 : decode cX3_add 103 = .ok (.aload_n 0, 1) := by decide +kernel
theorem dX3_add_104 : decode cX3_add 104 = .ok (.getfield 29, 3) := by decide +kernel
theorem dX3_add_107 : decode cX3_add 107 = .ok (.iload_n 3, 1) := by decide +kernel
theorem dX3_add_108 : decode cX3_add 108 = .ok (.iastore, 1) := by decide +kernel
theorem dX3_add_109 : decode cX3_add 109 = .ok (.aload_n 0, 1) := by decide +kernel
theorem dX3_add_110 : decode cX3_add 110 = .ok (.getfield 29, 3) := by decide +kernel
theorem dX3_add_113 : decode cX3_add 113 = .ok (.iconst 1, 1) := by decide +kernel
theorem dX3_add_114 : decode cX3_add 114 = .ok (.isub, 1) := by decide +kernel
theorem dX3_add_115 : decode cX3_add 115 = .ok (.ireturn, 1) := by decide +kernel
theorem dX3_spanOn_0 : decode cX3_spanOn 0 = .ok (.aload_n 0, 1) := by decide +kernel
theorem dX3_spanOn_1 : decode cX3_spanOn 1 = .ok (.iload_n 2, 1) := by decide +kernel
theorem dX3_spanOn_2 : decode cX3_spanOn 2 = .ok (.invokevirtual 39, 3) := by decide +kernel
theorem dX3_spanOn_5 : decode cX3_spanOn 5 = .ok (.istore_n 3, 1) := by decide +kernel
theorem dX3_spanOn_6 : decode cX3_spanOn 6 = .ok (.iload_n 3, 1) := by decide +kernel
theorem dX3_spanOn_7 : decode cX3_spanOn 7 = .ok (.bipush (-9), 2) := by decide +kernel
theorem dX3_spanOn_9 : decode cX3_spanOn 9 = .ok (.if_icmp .ne 6, 3) := by decide +kernel
theorem dX3_spanOn_12 : decode cX3_spanOn 12 = .ok (.bipush 100, 2) := by decide +kernel
theorem dX3_spanOn_14 : decode cX3_spanOn 14 = .ok (.ireturn, 1) := by decide +kernel
theorem dX3_spanOn_15 : decode cX3_spanOn 15 = .ok (.aload_n 0, 1) := by decide +kernel
theorem dX3_spanOn_16 : decode cX3_spanOn 16 = .ok (.getfield 15, 3) := by decide +kernel
theorem dX3_spanOn_19 : decode cX3_spanOn 19 = .ok (.iload_n 3, 1) := by decide +kernel
theorem dX3_spanOn_20 : decode cX3_spanOn 20 = .ok (.iconst 1, 1) := by decide +kernel
theorem dX3_spanOn_21 : decode cX3_spanOn 21 = .ok (.iadd, 1) := by decide +kernel
theorem dX3_spanOn_22 : decode cX3_spanOn 22 = .ok (.iaload, 1) := by decide +kernel
theorem dX3_spanOn_23 : decode cX3_spanOn 23 = .ok (.iconst 1, 1) := by decide +kernel
theorem dX3_spanOn_24 : decode cX3_spanOn 24 = .ok (.isub, 1) := by decide +kernel
theorem dX3_spanOn_25 : decode cX3_spanOn 25 = .ok (.istore 4, 2) := by decide +kernel
theorem dX3_spanOn_27 : decode cX3_spanOn 27 = .ok (.iload 4, 2) := by decide +kernel
theorem dX3_spanOn_29 : decode cX3_spanOn 29 = .ok (.aload_n 0, 1) := by decide +kernel
theorem dX3_spanOn_30 : decode cX3_spanOn 30 = .ok (.getfield 15, 3) := by decide +kernel
theorem dX3_spanOn_33 : decode cX3_spanOn 33 = .ok (.iload_n 3, 1) := by decide +kernel
theorem dX3_spanOn_34 : decode cX3_spanOn 34 = .ok (.iaload, 1) := by decide +kernel
theorem dX3_spanOn_35 : decode cX3_spanOn 35 = .ok (.if_icmp .lt 39, 3) := by decide +kernel
theorem dX3_spanOn_38 : decode cX3_spanOn 38 = .ok (.aload_n 0, 1) := by decide +kernel
theorem dX3_spanOn_39 : decode cX3_spanOn 39 = .ok (.getfield 20, 3) := by decide +kernel
theorem dX3_spanOn_42 : decode cX3_spanOn 42 = .ok (.iload 4, 2) := by decide +kernel
theorem dX3_spanOn_44 : decode cX3_spanOn 44 = .ok (.iaload, 1) := by decide +kernel
theorem dX3_spanOn_45 : decode cX3_spanOn 45 = .ok (.iload_n 1, 1) := by decide +kernel
theorem dX3_spanOn_46 : decode cX3_spanOn 46 = .ok (.if_icmp .ne 22, 3) := by decide +kernel
theorem dX3_spanOn_49 : decode cX3_spanOn 49 = .ok (.aload_n 0, 1) := by decide +kernel
theorem dX3_spanOn_50 : decode cX3_spanOn 50 = .ok (.getfield 26, 3) := by decide +kernel
theorem dX3_spanOn_53 : decode cX3_spanOn 53 = .ok (.iload 4, 2) := by decide +kernel
theorem dX3_spanOn_55 : decode cX3_spanOn 55 = .ok (.iaload, 1) := by decide +kernel
theorem dX3_spanOn_56 : decode cX3_spanOn 56 = .ok (.iload_n 2, 1) := by decide +kernel
theorem dX3_spanOn_57 : decode cX3_spanOn 57 = .ok (.if_icmp .gt 11, 3) := by decide +kernel
theorem dX3_spanOn_60 : decode cX3_spanOn 60 = .ok (.aload_n 0, 1) := by decide +kernel
theorem dX3_spanOn_61 : decode cX3_spanOn 61 = .ok (.getfield 23, 3) := by decide +kernel
theorem dX3_spanOn_64 : decode cX3_spanOn 64 = .ok (.iload 4, 2) := by decide +kernel
theorem dX3_spanOn_66 : decode cX3_spanOn 66 = .ok (.iaload, 1) := by decide +kernel
theorem dX3_spanOn_67 : decode cX3_spanOn 67 = .ok (.ireturn, 1) := by decide +kernel
theorem dX3_spanOn_68 : decode cX3_spanOn 68 = .ok (.iinc 4 (-1), 3) := by decide +kernel
theorem dX3_spanOn_71 : decode cX3_spanOn 71 = .ok (.goto (-44), 3) := by decide +kernel
theorem dX3_spanOn_74 : decode cX3_spanOn 74 = .ok (.bipush 100, 2) := by decide +kernel
theorem dX3_spanOn_76 : decode cX3_spanOn 76 = .ok (.ireturn, 1) := by decide +kernel
theorem dX3_firstDue_0 : decode cX3_firstDue 0 = .ok (.iconst 1, 1) := by decide +kernel
theorem dX3_firstDue_1 : decode cX3_firstDue 1 = .ok (.istore_n 3, 1) := by decide +kernel
theorem dX3_firstDue_2 : decode cX3_firstDue 2 = .ok (.iload_n 3, 1) := by decide +kernel
theorem dX3_firstDue_3 : decode cX3_firstDue 3 = .ok (.sipush 200, 3) := by decide +kernel
theorem dX3_firstDue_6 : decode cX3_firstDue 6 = .ok (.if_icmp .ge 25, 3) := by decide +kernel
theorem dX3_firstDue_9 : decode cX3_firstDue 9 = .ok (.iload_n 3, 1) := by decide +kernel
theorem dX3_firstDue_10 : decode cX3_firstDue 10 = .ok (.aload_n 0, 1) := by decide +kernel
theorem dX3_firstDue_11 : decode cX3_firstDue 11 = .ok (.iload_n 1, 1) := by decide +kernel
theorem dX3_firstDue_12 : decode cX3_firstDue 12 = .ok (.iload_n 2, 1) := by decide +kernel
theorem dX3_firstDue_13 : decode cX3_firstDue 13 = .ok (.iload_n 3, 1) := by decide +kernel
theorem dX3_firstDue_14 : decode cX3_firstDue 14 = .ok (.iadd, 1) := by decide +kernel
theorem dX3_firstDue_15 : decode cX3_firstDue 15 = .ok (.invokevirtual 43, 3) := by decide +kernel
theorem dX3_firstDue_18 : decode cX3_firstDue 18 = .ok (.if_icmp .lt 7, 3) := by decide +kernel
theorem dX3_firstDue_21 : decode cX3_firstDue 21 = .ok (.iload_n 2, 1) := by decide +kernel
theorem dX3_firstDue_22 : decode cX3_firstDue 22 = .ok (.iload_n 3, 1) := by decide +kernel
theorem dX3_firstDue_23 : decode cX3_firstDue 23 = .ok (.iadd, 1) := by decide +kernel
theorem dX3_firstDue_24 : decode cX3_firstDue 24 = .ok (.ireturn, 1) := by decide +kernel
theorem dX3_firstDue_25 : decode cX3_firstDue 25 = .ok (.iinc 3 1, 3) := by decide +kernel
theorem dX3_firstDue_28 : decode cX3_firstDue 28 = .ok (.goto (-26), 3) := by decide +kernel
theorem dX3_firstDue_31 : decode cX3_firstDue 31 = .ok (.iload_n 2, 1) := by decide +kernel
theorem dX3_firstDue_32 : decode cX3_firstDue 32 = .ok (.sipush 200, 3) := by decide +kernel
theorem dX3_firstDue_35 : decode cX3_firstDue 35 = .ok (.iadd, 1) := by decide +kernel
theorem dX3_firstDue_36 : decode cX3_firstDue 36 = .ok (.ireturn, 1) := by decide +kernel
theorem dX3_inForce_0 : decode cX3_inForce 0 = .ok (.aload_n 0, 1) := by decide +kernel
theorem dX3_inForce_1 : decode cX3_inForce 1 = .ok (.getfield 29, 3) := by decide +kernel
theorem dX3_inForce_4 : decode cX3_inForce 4 = .ok (.iconst 1, 1) := by decide +kernel
theorem dX3_inForce_5 : decode cX3_inForce 5 = .ok (.isub, 1) := by decide +kernel
theorem dX3_inForce_6 : decode cX3_inForce 6 = .ok (.istore_n 2, 1) := by decide +kernel
theorem dX3_inForce_7 : decode cX3_inForce 7 = .ok (.iload_n 2, 1) := by decide +kernel
theorem dX3_inForce_8 : decode cX3_inForce 8 = .ok (.ifCond .lt 21, 3) := by decide +kernel
theorem dX3_inForce_11 : decode cX3_inForce 11 = .ok (.aload_n 0, 1) := by decide +kernel
theorem dX3_inForce_12 : decode cX3_inForce 12 = .ok (.getfield 11, 3) := by decide +kernel
theorem dX3_inForce_15 : decode cX3_inForce 15 = .ok (.iload_n 2, 1) := by decide +kernel
theorem dX3_inForce_16 : decode cX3_inForce 16 = .ok (.iaload, 1) := by decide +kernel
theorem dX3_inForce_17 : decode cX3_inForce 17 = .ok (.iload_n 1, 1) := by decide +kernel
theorem dX3_inForce_18 : decode cX3_inForce 18 = .ok (.if_icmp .gt 5, 3) := by decide +kernel
theorem dX3_inForce_21 : decode cX3_inForce 21 = .ok (.iload_n 2, 1) := by decide +kernel
theorem dX3_inForce_22 : decode cX3_inForce 22 = .ok (.ireturn, 1) := by decide +kernel
theorem dX3_inForce_23 : decode cX3_inForce 23 = .ok (.iinc 2 (-1), 3) := by decide +kernel
theorem dX3_inForce_26 : decode cX3_inForce 26 = .ok (.goto (-19), 3) := by decide +kernel
theorem dX3_inForce_29 : decode cX3_inForce 29 = .ok (.bipush (-9), 2) := by decide +kernel
theorem dX3_inForce_31 : decode cX3_inForce 31 = .ok (.ireturn, 1) := by decide +kernel
theorem dX4_init_0 : decode cX4_init 0 = .ok (.aload_n 0, 1) := by decide +kernel
theorem dX4_init_1 : decode cX4_init 1 = .ok (.invokespecial 3, 3) := by decide +kernel
theorem dX4_init_4 : decode cX4_init 4 = .ok (.aload_n 0, 1) := by decide +kernel
theorem dX4_init_5 : decode cX4_init 5 = .ok (.bipush 30, 2) := by decide +kernel
theorem dX4_init_7 : decode cX4_init 7 = .ok (.newarray .int, 2) := by decide +kernel
theorem dX4_init_9 : decode cX4_init 9 = .ok (.putfield 11, 3) := by decide +kernel
theorem dX4_init_12 : decode cX4_init 12 = .ok (.aload_n 0, 1) := by decide +kernel
theorem dX4_init_13 : decode cX4_init 13 = .ok (.bipush 30, 2) := by decide +kernel
theorem dX4_init_15 : decode cX4_init 15 = .ok (.newarray .int, 2) := by decide +kernel
theorem dX4_init_17 : decode cX4_init 17 = .ok (.putfield 15, 3) := by decide +kernel
theorem dX4_init_20 : decode cX4_init 20 = .ok (.aload_n 0, 1) := by decide +kernel
theorem dX4_init_21 : decode cX4_init 21 = .ok (.bipush 30, 2) := by decide +kernel
theorem dX4_init_23 : decode cX4_init 23 = .ok (.newarray .int, 2) := by decide +kernel
theorem dX4_init_25 : decode cX4_init 25 = .ok (.putfield 18, 3) := by decide +kernel
theorem dX4_init_28 : decode cX4_init 28 = .ok (.aload_n 0, 1) := by decide +kernel
theorem dX4_init_29 : decode cX4_init 29 = .ok (.bipush 30, 2) := by decide +kernel
theorem dX4_init_31 : decode cX4_init 31 = .ok (.newarray .int, 2) := by decide +kernel
theorem dX4_init_33 : decode cX4_init 33 = .ok (.putfield 21, 3) := by decide +kernel
theorem dX4_init_36 : decode cX4_init 36 = .ok (.aload_n 0, 1) := by decide +kernel
theorem dX4_init_37 : decode cX4_init 37 = .ok (.iconst 0, 1) := by decide +kernel
theorem dX4_init_38 : decode cX4_init 38 = .ok (.putfield 24, 3) := by decide +kernel
theorem dX4_init_41 : decode cX4_init 41 = .ok (.return_, 1) := by decide +kernel
theorem dX4_isFull_0 : decode cX4_isFull 0 = .ok (.aload_n 0, 1) := by decide +kernel
theorem dX4_isFull_1 : decode cX4_isFull 1 = .ok (.getfield 24, 3) := by decide +kernel
theorem dX4_isFull_4 : decode cX4_isFull 4 = .ok (.bipush 30, 2) := by decide +kernel
theorem dX4_isFull_6 : decode cX4_isFull 6 = .ok (.if_icmp .lt 7, 3) := by decide +kernel
theorem dX4_isFull_9 : decode cX4_isFull 9 = .ok (.iconst 1, 1) := by decide +kernel
theorem dX4_isFull_10 : decode cX4_isFull 10 = .ok (.goto 4, 3) := by decide +kernel
theorem dX4_isFull_13 : decode cX4_isFull 13 = .ok (.iconst 0, 1) := by decide +kernel
theorem dX4_isFull_14 : decode cX4_isFull 14 = .ok (.ireturn, 1) := by decide +kernel
theorem dX4_add_0 : decode cX4_add 0 = .ok (.aload_n 0, 1) := by decide +kernel
theorem dX4_add_1 : decode cX4_add 1 = .ok (.getfield 11, 3) := by decide +kernel
theorem dX4_add_4 : decode cX4_add 4 = .ok (.aload_n 0, 1) := by decide +kernel
theorem dX4_add_5 : decode cX4_add 5 = .ok (.getfield 24, 3) := by decide +kernel
theorem dX4_add_8 : decode cX4_add 8 = .ok (.iload_n 1, 1) := by decide +kernel
theorem dX4_add_9 : decode cX4_add 9 = .ok (.iastore, 1) := by decide +kernel
theorem dX4_add_10 : decode cX4_add 10 = .ok (.aload_n 0, 1) := by decide +kernel
theorem dX4_add_11 : decode cX4_add 11 = .ok (.getfield 15, 3) := by decide +kernel
theorem dX4_add_14 : decode cX4_add 14 = .ok (.aload_n 0, 1) := by decide +kernel
theorem dX4_add_15 : decode cX4_add 15 = .ok (.getfield 24, 3) := by decide +kernel
theorem dX4_add_18 : decode cX4_add 18 = .ok (.iload_n 2, 1) := by decide +kernel
theorem dX4_add_19 : decode cX4_add 19 = .ok (.iastore, 1) := by decide +kernel
theorem dX4_add_20 : decode cX4_add 20 = .ok (.aload_n 0, 1) := by decide +kernel
theorem dX4_add_21 : decode cX4_add 21 = .ok (.getfield 18, 3) := by decide +kernel
theorem dX4_add_24 : decode cX4_add 24 = .ok (.aload_n 0, 1) := by decide +kernel
theorem dX4_add_25 : decode cX4_add 25 = .ok (.getfield 24, 3) := by decide +kernel
theorem dX4_add_28 : decode cX4_add 28 = .ok (.iload_n 3, 1) := by decide +kernel
theorem dX4_add_29 : decode cX4_add 29 = .ok (.iastore, 1) := by decide +kernel
theorem dX4_add_30 : decode cX4_add 30 = .ok (.aload_n 0, 1) := by decide +kernel
theorem dX4_add_31 : decode cX4_add 31 = .ok (.getfield 21, 3) := by decide +kernel
theorem dX4_add_34 : decode cX4_add 34 = .ok (.aload_n 0, 1) := by decide +kernel
theorem dX4_add_35 : decode cX4_add 35 = .ok (.getfield 24, 3) := by decide +kernel
theorem dX4_add_38 : decode cX4_add 38 = .ok (.iload 4, 2) := by decide +kernel
theorem dX4_add_40 : decode cX4_add 40 = .ok (.ifCond .eq 7, 3) := by decide +kernel
theorem dX4_add_43 : decode cX4_add 43 = .ok (.iconst 1, 1) := by decide +kernel
theorem dX4_add_44 : decode cX4_add 44 = .ok (.goto 4, 3) := by decide +kernel
theorem dX4_add_47 : decode cX4_add 47 = .ok (.iconst 0, 1) := by decide +kernel
theorem dX4_add_48 : decode cX4_add 48 = .ok (.iastore, 1) := by decide +kernel
theorem dX4_add_49 : decode cX4_add 49 = .ok (.aload_n 0, 1) := by decide +kernel
theorem dX4_add_50 : decode cX4_add 50 = .ok (.dup, 1) := by decide +kernel
theorem dX4_add_51 : decode cX4_add 51 = .ok (.getfield 24, 3) := by decide +kernel
theorem dX4_add_54 : decode cX4_add 54 = .ok (.iconst 1, 1) := by decide +kernel
theorem dX4_add_55 : decode cX4_add 55 = .ok (.iadd, 1) := by decide +kernel
theorem dX4_add_56 : decode cX4_add 56 = .ok (.putfield 24, 3) := by decide +kernel
theorem dX4_add_59 : decode cX4_add 59 = .ok (.aload_n 0, 1) := by decide +kernel
theorem dX4_add_60 : decode cX4_add 60 = .ok (.getfield 24, 3) := by decide +kernel
theorem dX4_add_63 : decode cX4_add 63 = .ok (.iconst 1, 1) := by decide +kernel
theorem dX4_add_64 : decode cX4_add 64 = .ok (.isub, 1) := by decide +kernel
theorem dX4_add_65 : decode cX4_add 65 = .ok (.ireturn, 1) := by decide +kernel
theorem dX4_asKnown_0 : decode cX4_asKnown 0 = .ok (.bipush (-9), 2) := by decide +kernel
theorem dX4_asKnown_2 : decode cX4_asKnown 2 = .ok (.istore_n 3, 1) := by decide +kernel
theorem dX4_asKnown_3 : decode cX4_asKnown 3 = .ok (.iconst (-1), 1) := by decide +kernel
theorem dX4_asKnown_4 : decode cX4_asKnown 4 = .ok (.istore 4, 2) := by decide +kernel
theorem dX4_asKnown_6 : decode cX4_asKnown 6 = .ok (.iconst 0, 1) := by decide +kernel
theorem dX4_asKnown_7 : decode cX4_asKnown 7 = .ok (.istore 5, 2) := by decide +kernel
theorem dX4_asKnown_9 : decode cX4_asKnown 9 = .ok (.iload 5, 2) := by decide +kernel
theorem dX4_asKnown_11 : decode cX4_asKnown 11 = .ok (.aload_n 0, 1) := by decide +kernel
theorem dX4_asKnown_12 : decode cX4_asKnown 12 = .ok (.getfield 24, 3) := by decide +kernel
theorem dX4_asKnown_15 : decode cX4_asKnown 15 = .ok (.if_icmp .ge 83, 3) := by decide +kernel
theorem dX4_asKnown_18 : decode cX4_asKnown 18 = .ok (.aload_n 0, 1) := by decide +kernel
theorem dX4_asKnown_19 : decode cX4_asKnown 19 = .ok (.getfield 11, 3) := by decide +kernel
theorem dX4_asKnown_22 : decode cX4_asKnown 22 = .ok (.iload 5, 2) := by decide +kernel
theorem dX4_asKnown_24 : decode cX4_asKnown 24 = .ok (.iaload, 1) := by decide +kernel
theorem dX4_asKnown_25 : decode cX4_asKnown 25 = .ok (.iload_n 1, 1) := by decide +kernel
theorem dX4_asKnown_26 : decode cX4_asKnown 26 = .ok (.if_icmp .ne 29, 3) := by decide +kernel
theorem dX4_asKnown_29 : decode cX4_asKnown 29 = .ok (.aload_n 0, 1) := by decide +kernel
theorem dX4_asKnown_30 : decode cX4_asKnown 30 = .ok (.getfield 18, 3) := by decide +kernel
theorem dX4_asKnown_33 : decode cX4_asKnown 33 = .ok (.iload 5, 2) := by decide +kernel
theorem dX4_asKnown_35 : decode cX4_asKnown 35 = .ok (.iaload, 1) := by decide +kernel
theorem dX4_asKnown_36 : decode cX4_asKnown 36 = .ok (.iload_n 2, 1) := by decide +kernel
theorem dX4_asKnown_37 : decode cX4_asKnown 37 = .ok (.if_icmp .gt 18, 3) := by decide +kernel
theorem dX4_asKnown_40 : decode cX4_asKnown 40 = .ok (.aload_n 0, 1) := by decide +kernel
theorem dX4_asKnown_41 : decode cX4_asKnown 41 = .ok (.getfield 15, 3) := by decide +kernel
theorem dX4_asKnown_44 : decode cX4_asKnown 44 = .ok (.iload 5, 2) := by decide +kernel
theorem dX4_asKnown_46 : decode cX4_asKnown 46 = .ok (.iaload, 1) := by decide +kernel
theorem dX4_asKnown_47 : decode cX4_asKnown 47 = .ok (.iload_n 2, 1) := by decide +kernel
theorem dX4_asKnown_48 : decode cX4_asKnown 48 = .ok (.if_icmp .gt 7, 3) := by decide +kernel
theorem dX4_asKnown_51 : decode cX4_asKnown 51 = .ok (.iconst 1, 1) := by decide +kernel
theorem dX4_asKnown_52 : decode cX4_asKnown 52 = .ok (.goto 4, 3) := by decide +kernel
theorem dX4_asKnown_55 : decode cX4_asKnown 55 = .ok (.iconst 0, 1) := by decide +kernel
theorem dX4_asKnown_56 : decode cX4_asKnown 56 = .ok (.istore 6, 2) := by decide +kernel
theorem dX4_asKnown_58 : decode cX4_asKnown 58 = .ok (.iload 6, 2) := by decide +kernel
theorem dX4_asKnown_60 : decode cX4_asKnown 60 = .ok (.ifCond .eq 32, 3) := by decide +kernel
theorem dX4_asKnown_63 : decode cX4_asKnown 63 = .ok (.aload_n 0, 1) := by decide +kernel
theorem dX4_asKnown_64 : decode cX4_asKnown 64 = .ok (.getfield 15, 3) := by decide +kernel
theorem dX4_asKnown_67 : decode cX4_asKnown 67 = .ok (.iload 5, 2) := by decide +kernel
theorem dX4_asKnown_69 : decode cX4_asKnown 69 = .ok (.iaload, 1) := by decide +kernel
theorem dX4_asKnown_70 : decode cX4_asKnown 70 = .ok (.iload 4, 2) := by decide +kernel
theorem dX4_asKnown_72 : decode cX4_asKnown 72 = .ok (.if_icmp .lt 20, 3) := by decide +kernel
theorem dX4_asKnown_75 : decode cX4_asKnown 75 = .ok (.aload_n 0, 1) := by decide +kernel
theorem dX4_asKnown_76 : decode cX4_asKnown 76 = .ok (.getfield 21, 3) := by decide +kernel
theorem dX4_asKnown_79 : decode cX4_asKnown 79 = .ok (.iload 5, 2) := by decide +kernel
theorem dX4_asKnown_81 : decode cX4_asKnown 81 = .ok (.iaload, 1) := by decide +kernel
theorem dX4_asKnown_82 : decode cX4_asKnown 82 = .ok (.istore_n 3, 1) := by decide +kernel
theorem dX4_asKnown_83 : decode cX4_asKnown 83 = .ok (.aload_n 0, 1) := by decide +kernel
theorem dX4_asKnown_84 : decode cX4_asKnown 84 = .ok (.getfield 15, 3) := by decide +kernel
theorem dX4_asKnown_87 : decode cX4_asKnown 87 = .ok (.iload 5, 2) := by decide +kernel
theorem dX4_asKnown_89 : decode cX4_asKnown 89 = .ok (.iaload, 1) := by decide +kernel
theorem dX4_asKnown_90 : decode cX4_asKnown 90 = .ok (.istore 4, 2) := by decide +kernel
theorem dX4_asKnown_92 : decode cX4_asKnown 92 = .ok (.iinc 5 1, 3) := by decide +kernel
theorem dX4_asKnown_95 : decode cX4_asKnown 95 = .ok (.goto (-86), 3) := by decide +kernel
theorem dX4_asKnown_98 : decode cX4_asKnown 98 = .ok (.iload_n 3, 1) := by decide +kernel
theorem dX4_asKnown_99 : decode cX4_asKnown 99 = .ok (.ireturn, 1) := by decide +kernel
theorem dX5_init_0 : decode cX5_init 0 = .ok (.aload_n 0, 1) := by decide +kernel
theorem dX5_init_1 : decode cX5_init 1 = .ok (.invokespecial 3, 3) := by decide +kernel
theorem dX5_init_4 : decode cX5_init 4 = .ok (.aload_n 0, 1) := by decide +kernel
theorem dX5_init_5 : decode cX5_init 5 = .ok (.bipush 100, 2) := by decide +kernel
theorem dX5_init_7 : decode cX5_init 7 = .ok (.newarray .int, 2) := by decide +kernel
theorem dX5_init_9 : decode cX5_init 9 = .ok (.putfield 11, 3) := by decide +kernel
theorem dX5_init_12 : decode cX5_init 12 = .ok (.aload_n 0, 1) := by decide +kernel
theorem dX5_init_13 : decode cX5_init 13 = .ok (.bipush 100, 2) := by decide +kernel
theorem dX5_init_15 : decode cX5_init 15 = .ok (.newarray .int, 2) := by decide +kernel
theorem dX5_init_17 : decode cX5_init 17 = .ok (.putfield 15, 3) := by decide +kernel
theorem dX5_init_20 : decode cX5_init 20 = .ok (.aload_n 0, 1) := by decide +kernel
theorem dX5_init_21 : decode cX5_init 21 = .ok (.bipush 100, 2) := by decide +kernel
theorem dX5_init_23 : decode cX5_init 23 = .ok (.newarray .int, 2) := by decide +kernel
theorem dX5_init_25 : decode cX5_init 25 = .ok (.putfield 18, 3) := by decide +kernel
theorem dX5_init_28 : decode cX5_init 28 = .ok (.aload_n 0, 1) := by decide +kernel
theorem dX5_init_29 : decode cX5_init 29 = .ok (.bipush 100, 2) := by decide +kernel
theorem dX5_init_31 : decode cX5_init 31 = .ok (.newarray .int, 2) := by decide +kernel
theorem dX5_init_33 : decode cX5_init 33 = .ok (.putfield 21, 3) := by decide +kernel
theorem dX5_init_36 : decode cX5_init 36 = .ok (.aload_n 0, 1) := by decide +kernel
theorem dX5_init_37 : decode cX5_init 37 = .ok (.iconst 0, 1) := by decide +kernel
theorem dX5_init_38 : decode cX5_init 38 = .ok (.putfield 24, 3) := by decide +kernel
theorem dX5_init_41 : decode cX5_init 41 = .ok (.return_, 1) := by decide +kernel
theorem dX5_isFull_0 : decode cX5_isFull 0 = .ok (.aload_n 0, 1) := by decide +kernel
theorem dX5_isFull_1 : decode cX5_isFull 1 = .ok (.getfield 24, 3) := by decide +kernel
theorem dX5_isFull_4 : decode cX5_isFull 4 = .ok (.bipush 100, 2) := by decide +kernel
theorem dX5_isFull_6 : decode cX5_isFull 6 = .ok (.if_icmp .lt 7, 3) := by decide +kernel
theorem dX5_isFull_9 : decode cX5_isFull 9 = .ok (.iconst 1, 1) := by decide +kernel
theorem dX5_isFull_10 : decode cX5_isFull 10 = .ok (.goto 4, 3) := by decide +kernel
theorem dX5_isFull_13 : decode cX5_isFull 13 = .ok (.iconst 0, 1) := by decide +kernel
theorem dX5_isFull_14 : decode cX5_isFull 14 = .ok (.ireturn, 1) := by decide +kernel
theorem dX5_add_0 : decode cX5_add 0 = .ok (.aload_n 0, 1) := by decide +kernel
theorem dX5_add_1 : decode cX5_add 1 = .ok (.getfield 11, 3) := by decide +kernel
theorem dX5_add_4 : decode cX5_add 4 = .ok (.aload_n 0, 1) := by decide +kernel
theorem dX5_add_5 : decode cX5_add 5 = .ok (.getfield 24, 3) := by decide +kernel
theorem dX5_add_8 : decode cX5_add 8 = .ok (.iload_n 1, 1) := by decide +kernel
theorem dX5_add_9 : decode cX5_add 9 = .ok (.iastore, 1) := by decide +kernel
theorem dX5_add_10 : decode cX5_add 10 = .ok (.aload_n 0, 1) := by decide +kernel
theorem dX5_add_11 : decode cX5_add 11 = .ok (.getfield 15, 3) := by decide +kernel
theorem dX5_add_14 : decode cX5_add 14 = .ok (.aload_n 0, 1) := by decide +kernel
theorem dX5_add_15 : decode cX5_add 15 = .ok (.getfield 24, 3) := by decide +kernel
theorem dX5_add_18 : decode cX5_add 18 = .ok (.iload_n 2, 1) := by decide +kernel
theorem dX5_add_19 : decode cX5_add 19 = .ok (.iastore, 1) := by decide +kernel
theorem dX5_add_20 : decode cX5_add 20 = .ok (.aload_n 0, 1) := by decide +kernel
theorem dX5_add_21 : decode cX5_add 21 = .ok (.getfield 18, 3) := by decide +kernel
theorem dX5_add_24 : decode cX5_add 24 = .ok (.aload_n 0, 1) := by decide +kernel
theorem dX5_add_25 : decode cX5_add 25 = .ok (.getfield 24, 3) := by decide +kernel
theorem dX5_add_28 : decode cX5_add 28 = .ok (.iload_n 3, 1) := by decide +kernel
theorem dX5_add_29 : decode cX5_add 29 = .ok (.iastore, 1) := by decide +kernel
theorem dX5_add_30 : decode cX5_add 30 = .ok (.aload_n 0, 1) := by decide +kernel
theorem dX5_add_31 : decode cX5_add 31 = .ok (.getfield 21, 3) := by decide +kernel
theorem dX5_add_34 : decode cX5_add 34 = .ok (.aload_n 0, 1) := by decide +kernel
theorem dX5_add_35 : decode cX5_add 35 = .ok (.getfield 24, 3) := by decide +kernel
theorem dX5_add_38 : decode cX5_add 38 = .ok (.iload 4, 2) := by decide +kernel
theorem dX5_add_40 : decode cX5_add 40 = .ok (.iastore, 1) := by decide +kernel
theorem dX5_add_41 : decode cX5_add 41 = .ok (.aload_n 0, 1) := by decide +kernel
theorem dX5_add_42 : decode cX5_add 42 = .ok (.dup, 1) := by decide +kernel
theorem dX5_add_43 : decode cX5_add 43 = .ok (.getfield 24, 3) := by decide +kernel
theorem dX5_add_46 : decode cX5_add 46 = .ok (.iconst 1, 1) := by decide +kernel
theorem dX5_add_47 : decode cX5_add 47 = .ok (.iadd, 1) := by decide +kernel
theorem dX5_add_48 : decode cX5_add 48 = .ok (.putfield 24, 3) := by decide +kernel
theorem dX5_add_51 : decode cX5_add 51 = .ok (.return_, 1) := by decide +kernel
theorem dX5_latest_0 : decode cX5_latest 0 = .ok (.aload_n 0, 1) := by decide +kernel
theorem dX5_latest_1 : decode cX5_latest 1 = .ok (.getfield 24, 3) := by decide +kernel
theorem dX5_latest_4 : decode cX5_latest 4 = .ok (.iconst 1, 1) := by decide +kernel
theorem dX5_latest_5 : decode cX5_latest 5 = .ok (.isub, 1) := by decide +kernel
theorem dX5_latest_6 : decode cX5_latest 6 = .ok (.istore_n 3, 1) := by decide +kernel
theorem dX5_latest_7 : decode cX5_latest 7 = .ok (.iload_n 3, 1) := by decide +kernel
theorem dX5_latest_8 : decode cX5_latest 8 = .ok (.ifCond .lt 31, 3) := by decide +kernel
theorem dX5_latest_11 : decode cX5_latest 11 = .ok (.aload_n 0, 1) := by decide +kernel
theorem dX5_latest_12 : decode cX5_latest 12 = .ok (.getfield 11, 3) := by decide +kernel
theorem dX5_latest_15 : decode cX5_latest 15 = .ok (.iload_n 3, 1) := by decide +kernel
theorem dX5_latest_16 : decode cX5_latest 16 = .ok (.iaload, 1) := by decide +kernel
theorem dX5_latest_17 : decode cX5_latest 17 = .ok (.iload_n 1, 1) := by decide +kernel
theorem dX5_latest_18 : decode cX5_latest 18 = .ok (.if_icmp .ne 15, 3) := by decide +kernel
theorem dX5_latest_21 : decode cX5_latest 21 = .ok (.aload_n 0, 1) := by decide +kernel
theorem dX5_latest_22 : decode cX5_latest 22 = .ok (.getfield 15, 3) := by decide +kernel
theorem dX5_latest_25 : decode cX5_latest 25 = .ok (.iload_n 3, 1) := by decide +kernel
theorem dX5_latest_26 : decode cX5_latest 26 = .ok (.iaload, 1) := by decide +kernel
theorem dX5_latest_27 : decode cX5_latest 27 = .ok (.iload_n 2, 1) := by decide +kernel
theorem dX5_latest_28 : decode cX5_latest 28 = .ok (.if_icmp .gt 5, 3) := by decide +kernel
theorem dX5_latest_31 : decode cX5_latest 31 = .ok (.iload_n 3, 1) := by decide +kernel
theorem dX5_latest_32 : decode cX5_latest 32 = .ok (.ireturn, 1) := by decide +kernel
theorem dX5_latest_33 : decode cX5_latest 33 = .ok (.iinc 3 (-1), 3) := by decide +kernel
theorem dX5_latest_36 : decode cX5_latest 36 = .ok (.goto (-29), 3) := by decide +kernel
theorem dX5_latest_39 : decode cX5_latest 39 = .ok (.bipush (-9), 2) := by decide +kernel
theorem dX5_latest_41 : decode cX5_latest 41 = .ok (.ireturn, 1) := by decide +kernel
theorem dX5_earnedBy_0 : decode cX5_earnedBy 0 = .ok (.iconst 0, 1) := by decide +kernel
theorem dX5_earnedBy_1 : decode cX5_earnedBy 1 = .ok (.istore_n 2, 1) := by decide +kernel
theorem dX5_earnedBy_2 : decode cX5_earnedBy 2 = .ok (.iconst 0, 1) := by decide +kernel
theorem dX5_earnedBy_3 : decode cX5_earnedBy 3 = .ok (.istore_n 3, 1) := by decide +kernel
theorem dX5_earnedBy_4 : decode cX5_earnedBy 4 = .ok (.iload_n 3, 1) := by decide +kernel
theorem dX5_earnedBy_5 : decode cX5_earnedBy 5 = .ok (.aload_n 0, 1) := by decide +kernel
theorem dX5_earnedBy_6 : decode cX5_earnedBy 6 = .ok (.getfield 24, 3) := by decide +kernel
theorem dX5_earnedBy_9 : decode cX5_earnedBy 9 = .ok (.if_icmp .ge 28, 3) := by decide +kernel
theorem dX5_earnedBy_12 : decode cX5_earnedBy 12 = .ok (.aload_n 0, 1) := by decide +kernel
theorem dX5_earnedBy_13 : decode cX5_earnedBy 13 = .ok (.getfield 18, 3) := by decide +kernel
theorem dX5_earnedBy_16 : decode cX5_earnedBy 16 = .ok (.iload_n 3, 1) := by decide +kernel
theorem dX5_earnedBy_17 : decode cX5_earnedBy 17 = .ok (.iaload, 1) := by decide +kernel
theorem dX5_earnedBy_18 : decode cX5_earnedBy 18 = .ok (.iload_n 1, 1) := by decide +kernel
theorem dX5_earnedBy_19 : decode cX5_earnedBy 19 = .ok (.if_icmp .ne 12, 3) := by decide +kernel
theorem dX5_earnedBy_22 : decode cX5_earnedBy 22 = .ok (.iload_n 2, 1) := by decide +kernel
theorem dX5_earnedBy_23 : decode cX5_earnedBy 23 = .ok (.aload_n 0, 1) := by decide +kernel
theorem dX5_earnedBy_24 : decode cX5_earnedBy 24 = .ok (.getfield 21, 3) := by decide +kernel
theorem dX5_earnedBy_27 : decode cX5_earnedBy 27 = .ok (.iload_n 3, 1) := by decide +kernel
theorem dX5_earnedBy_28 : decode cX5_earnedBy 28 = .ok (.iaload, 1) := by decide +kernel
theorem dX5_earnedBy_29 : decode cX5_earnedBy 29 = .ok (.iadd, 1) := by decide +kernel
theorem dX5_earnedBy_30 : decode cX5_earnedBy 30 = .ok (.istore_n 2, 1) := by decide +kernel
theorem dX5_earnedBy_31 : decode cX5_earnedBy 31 = .ok (.iinc 3 1, 3) := by decide +kernel
theorem dX5_earnedBy_34 : decode cX5_earnedBy 34 = .ok (.goto (-30), 3) := by decide +kernel
theorem dX5_earnedBy_37 : decode cX5_earnedBy 37 = .ok (.iload_n 2, 1) := by decide +kernel
theorem dX5_earnedBy_38 : decode cX5_earnedBy 38 = .ok (.ireturn, 1) := by decide +kernel
theorem dX5_doneBy_0 : decode cX5_doneBy 0 = .ok (.iconst 0, 1) := by decide +kernel
theorem dX5_doneBy_1 : decode cX5_doneBy 1 = .ok (.istore_n 2, 1) := by decide +kernel
theorem dX5_doneBy_2 : decode cX5_doneBy 2 = .ok (.iconst 0, 1) := by decide +kernel
theorem dX5_doneBy_3 : decode cX5_doneBy 3 = .ok (.istore_n 3, 1) := by decide +kernel
theorem dX5_doneBy_4 : decode cX5_doneBy 4 = .ok (.iload_n 3, 1) := by decide +kernel
theorem dX5_doneBy_5 : decode cX5_doneBy 5 = .ok (.aload_n 0, 1) := by decide +kernel
theorem dX5_doneBy_6 : decode cX5_doneBy 6 = .ok (.getfield 24, 3) := by decide +kernel
theorem dX5_doneBy_9 : decode cX5_doneBy 9 = .ok (.if_icmp .ge 22, 3) := by decide +kernel
theorem dX5_doneBy_12 : decode cX5_doneBy 12 = .ok (.aload_n 0, 1) := by decide +kernel
theorem dX5_doneBy_13 : decode cX5_doneBy 13 = .ok (.getfield 18, 3) := by decide +kernel
theorem dX5_doneBy_16 : decode cX5_doneBy 16 = .ok (.iload_n 3, 1) := by decide +kernel
theorem dX5_doneBy_17 : decode cX5_doneBy 17 = .ok (.iaload, 1) := by decide +kernel
theorem dX5_doneBy_18 : decode cX5_doneBy 18 = .ok (.iload_n 1, 1) := by decide +kernel
theorem dX5_doneBy_19 : decode cX5_doneBy 19 = .ok (.if_icmp .ne 6, 3) := by decide +kernel
theorem dX5_doneBy_22 : decode cX5_doneBy 22 = .ok (.iinc 2 1, 3) := by decide +kernel
theorem dX5_doneBy_25 : decode cX5_doneBy 25 = .ok (.iinc 3 1, 3) := by decide +kernel
theorem dX5_doneBy_28 : decode cX5_doneBy 28 = .ok (.goto (-24), 3) := by decide +kernel
theorem dX5_doneBy_31 : decode cX5_doneBy 31 = .ok (.iload_n 2, 1) := by decide +kernel
theorem dX5_doneBy_32 : decode cX5_doneBy 32 = .ok (.ireturn, 1) := by decide +kernel
theorem dX6_init_0 : decode cX6_init 0 = .ok (.aload_n 0, 1) := by decide +kernel
theorem dX6_init_1 : decode cX6_init 1 = .ok (.invokespecial 3, 3) := by decide +kernel
theorem dX6_init_4 : decode cX6_init 4 = .ok (.aload_n 0, 1) := by decide +kernel
theorem dX6_init_5 : decode cX6_init 5 = .ok (.bipush 6, 2) := by decide +kernel
theorem dX6_init_7 : decode cX6_init 7 = .ok (.newarray .int, 2) := by decide +kernel
theorem dX6_init_9 : decode cX6_init 9 = .ok (.putfield 11, 3) := by decide +kernel
theorem dX6_init_12 : decode cX6_init 12 = .ok (.aload_n 0, 1) := by decide +kernel
theorem dX6_init_13 : decode cX6_init 13 = .ok (.bipush 6, 2) := by decide +kernel
theorem dX6_init_15 : decode cX6_init 15 = .ok (.newarray .int, 2) := by decide +kernel
theorem dX6_init_17 : decode cX6_init 17 = .ok (.putfield 15, 3) := by decide +kernel
theorem dX6_init_20 : decode cX6_init 20 = .ok (.aload_n 0, 1) := by decide +kernel
theorem dX6_init_21 : decode cX6_init 21 = .ok (.bipush 6, 2) := by decide +kernel
theorem dX6_init_23 : decode cX6_init 23 = .ok (.newarray .int, 2) := by decide +kernel
theorem dX6_init_25 : decode cX6_init 25 = .ok (.putfield 18, 3) := by decide +kernel
theorem dX6_init_28 : decode cX6_init 28 = .ok (.aload_n 0, 1) := by decide +kernel
theorem dX6_init_29 : decode cX6_init 29 = .ok (.bipush 6, 2) := by decide +kernel
theorem dX6_init_31 : decode cX6_init 31 = .ok (.newarray .boolean, 2) := by decide +kernel
theorem dX6_init_33 : decode cX6_init 33 = .ok (.putfield 21, 3) := by decide +kernel
theorem dX6_init_36 : decode cX6_init 36 = .ok (.aload_n 0, 1) := by decide +kernel
theorem dX6_init_37 : decode cX6_init 37 = .ok (.bipush 6, 2) := by decide +kernel
theorem dX6_init_39 : decode cX6_init 39 = .ok (.newarray .int, 2) := by decide +kernel
theorem dX6_init_41 : decode cX6_init 41 = .ok (.putfield 25, 3) := by decide +kernel
theorem dX6_init_44 : decode cX6_init 44 = .ok (.aload_n 0, 1) := by decide +kernel
theorem dX6_init_45 : decode cX6_init 45 = .ok (.bipush 6, 2) := by decide +kernel
theorem dX6_init_47 : decode cX6_init 47 = .ok (.newarray .int, 2) := by decide +kernel
theorem dX6_init_49 : decode cX6_init 49 = .ok (.putfield 28, 3) := by decide +kernel
theorem dX6_init_52 : decode cX6_init 52 = .ok (.aload_n 0, 1) := by decide +kernel
theorem dX6_init_53 : decode cX6_init 53 = .ok (.iconst 0, 1) := by decide +kernel
theorem dX6_init_54 : decode cX6_init 54 = .ok (.putfield 31, 3) := by decide +kernel
theorem dX6_init_57 : decode cX6_init 57 = .ok (.aload_n 0, 1) := by decide +kernel
theorem dX6_init_58 : decode cX6_init 58 = .ok (.iconst 0, 1) := by decide +kernel
theorem dX6_init_59 : decode cX6_init 59 = .ok (.putfield 35, 3) := by decide +kernel
theorem dX6_init_62 : decode cX6_init 62 = .ok (.return_, 1) := by decide +kernel
theorem dX6_restart_0 : decode cX6_restart 0 = .ok (.aload_n 0, 1) := by decide +kernel
theorem dX6_restart_1 : decode cX6_restart 1 = .ok (.iconst 0, 1) := by decide +kernel
theorem dX6_restart_2 : decode cX6_restart 2 = .ok (.putfield 31, 3) := by decide +kernel
theorem dX6_restart_5 : decode cX6_restart 5 = .ok (.return_, 1) := by decide +kernel
theorem dX6_addStop_0 : decode cX6_addStop 0 = .ok (.aload_n 0, 1) := by decide +kernel
theorem dX6_addStop_1 : decode cX6_addStop 1 = .ok (.getfield 31, 3) := by decide +kernel
theorem dX6_addStop_4 : decode cX6_addStop 4 = .ok (.bipush 6, 2) := by decide +kernel
theorem dX6_addStop_6 : decode cX6_addStop 6 = .ok (.if_icmp .ge 43, 3) := by decide +kernel
theorem dX6_addStop_9 : decode cX6_addStop 9 = .ok (.aload_n 0, 1) := by decide +kernel
theorem dX6_addStop_10 : decode cX6_addStop 10 = .ok (.getfield 11, 3) := by decide +kernel
theorem dX6_addStop_13 : decode cX6_addStop 13 = .ok (.aload_n 0, 1) := by decide +kernel
theorem dX6_addStop_14 : decode cX6_addStop 14 = .ok (.getfield 31, 3) := by decide +kernel
theorem dX6_addStop_17 : decode cX6_addStop 17 = .ok (.iload_n 1, 1) := by decide +kernel
theorem dX6_addStop_18 : decode cX6_addStop 18 = .ok (.iastore, 1) := by decide +kernel
theorem dX6_addStop_19 : decode cX6_addStop 19 = .ok (.aload_n 0, 1) := by decide +kernel
theorem dX6_addStop_20 : decode cX6_addStop 20 = .ok (.getfield 15, 3) := by decide +kernel
theorem dX6_addStop_23 : decode cX6_addStop 23 = .ok (.aload_n 0, 1) := by decide +kernel
theorem dX6_addStop_24 : decode cX6_addStop 24 = .ok (.getfield 31, 3) := by decide +kernel
theorem dX6_addStop_27 : decode cX6_addStop 27 = .ok (.iload_n 2, 1) := by decide +kernel
theorem dX6_addStop_28 : decode cX6_addStop 28 = .ok (.iastore, 1) := by decide +kernel
theorem dX6_addStop_29 : decode cX6_addStop 29 = .ok (.aload_n 0, 1) := by decide +kernel
theorem dX6_addStop_30 : decode cX6_addStop 30 = .ok (.getfield 18, 3) := by decide +kernel
theorem dX6_addStop_33 : decode cX6_addStop 33 = .ok (.aload_n 0, 1) := by decide +kernel
theorem dX6_addStop_34 : decode cX6_addStop 34 = .ok (.getfield 31, 3) := by decide +kernel
theorem dX6_addStop_37 : decode cX6_addStop 37 = .ok (.iload_n 3, 1) := by decide +kernel
theorem dX6_addStop_38 : decode cX6_addStop 38 = .ok (.iastore, 1) := by decide +kernel
theorem dX6_addStop_39 : decode cX6_addStop 39 = .ok (.aload_n 0, 1) := by decide +kernel
theorem dX6_addStop_40 : decode cX6_addStop 40 = .ok (.dup, 1) := by decide +kernel
theorem dX6_addStop_41 : decode cX6_addStop 41 = .ok (.getfield 31, 3) := by decide +kernel
theorem dX6_addStop_44 : decode cX6_addStop 44 = .ok (.iconst 1, 1) := by decide +kernel
theorem dX6_addStop_45 : decode cX6_addStop 45 = .ok (.iadd, 1) := by decide +kernel
theorem dX6_addStop_46 : decode cX6_addStop 46 = .ok (.putfield 31, 3) := by decide +kernel
theorem dX6_addStop_49 : decode cX6_addStop 49 = .ok (.return_, 1) := by decide +kernel
theorem dX6_flueAt_0 : decode cX6_flueAt 0 = .ok (.iload_n 1, 1) := by decide +kernel
theorem dX6_flueAt_1 : decode cX6_flueAt 1 = .ok (.ifCond .lt 20, 3) := by decide +kernel
theorem dX6_flueAt_4 : decode cX6_flueAt 4 = .ok (.iload_n 1, 1) := by decide +kernel
theorem dX6_flueAt_5 : decode cX6_flueAt 5 = .ok (.aload_n 0, 1) := by decide +kernel
theorem dX6_flueAt_6 : decode cX6_flueAt 6 = .ok (.getfield 31, 3) := by decide +kernel
theorem dX6_flueAt_9 : decode cX6_flueAt 9 = .ok (.if_icmp .ge 12, 3) := by decide +kernel
theorem dX6_flueAt_12 : decode cX6_flueAt 12 = .ok (.aload_n 0, 1) := by decide +kernel
theorem dX6_flueAt_13 : decode cX6_flueAt 13 = .ok (.getfield 28, 3) := by decide +kernel
theorem dX6_flueAt_16 : decode cX6_flueAt 16 = .ok (.iload_n 1, 1) := by decide +kernel
theorem dX6_flueAt_17 : decode cX6_flueAt 17 = .ok (.iaload, 1) := by decide +kernel
theorem dX6_flueAt_18 : decode cX6_flueAt 18 = .ok (.goto 5, 3) := by decide +kernel
theorem dX6_flueAt_21 : decode cX6_flueAt 21 = .ok (.bipush (-9), 2) := by decide +kernel
theorem dX6_flueAt_23 : decode cX6_flueAt 23 = .ok (.ireturn, 1) := by decide +kernel
theorem dX6_findLeastWay_0 : decode cX6_findLeastWay 0 = .ok (.aload_n 0, 1) := by decide +kernel
theorem dX6_findLeastWay_1 : decode cX6_findLeastWay 1 = .ok (.ldc 38, 2) := by decide +kernel
theorem dX6_findLeastWay_3 : decode cX6_findLeastWay 3 = .ok (.putfield 35, 3) := by decide +kernel
theorem dX6_findLeastWay_6 : decode cX6_findLeastWay 6 = .ok (.aload_n 0, 1) := by decide +kernel
theorem dX6_findLeastWay_7 : decode cX6_findLeastWay 7 = .ok (.iconst 0, 1) := by decide +kernel
theorem dX6_findLeastWay_8 : decode cX6_findLeastWay 8 = .ok (.iconst 0, 1) := by decide +kernel
theorem dX6_findLeastWay_9 : decode cX6_findLeastWay 9 = .ok (.iconst 0, 1) := by decide +kernel
theorem dX6_findLeastWay_10 : decode cX6_findLeastWay 10 = .ok (.iconst 0, 1) := by decide +kernel
theorem dX6_findLeastWay_11 : decode cX6_findLeastWay 11 = .ok (.invokestatic 39, 3) := by decide +kernel
theorem dX6_findLeastWay_14 : decode cX6_findLeastWay 14 = .ok (.return_, 1) := by decide +kernel
theorem dX6_extend_0 : decode cX6_extend 0 = .ok (.iload 4, 2) := by decide +kernel
theorem dX6_extend_2 : decode cX6_extend 2 = .ok (.iload_n 2, 1) := by decide +kernel
theorem dX6_extend_3 : decode cX6_extend 3 = .ok (.iadd, 1) := by decide +kernel
theorem dX6_extend_4 : decode cX6_extend 4 = .ok (.iload_n 3, 1) := by decide +kernel
theorem dX6_extend_5 : decode cX6_extend 5 = .ok (.iadd, 1) := by decide +kernel
theorem dX6_extend_6 : decode cX6_extend 6 = .ok (.istore 5, 2) := by decide +kernel
theorem dX6_extend_8 : decode cX6_extend 8 = .ok (.iload 5, 2) := by decide +kernel
theorem dX6_extend_10 : decode cX6_extend 10 = .ok (.aload_n 0, 1) := by decide +kernel
theorem dX6_extend_11 : decode cX6_extend 11 = .ok (.getfield 35, 3) := by decide +kernel
theorem dX6_extend_14 : decode cX6_extend 14 = .ok (.if_icmp .lt 4, 3) := by decide +kernel
theorem dX6_extend_17 : decode cX6_extend 17 = .ok (.return_, 1) := by decide +kernel
theorem dX6_extend_18 : decode cX6_extend 18 = .ok (.iload_n 1, 1) := by decide +kernel
theorem dX6_extend_19 : decode cX6_extend 19 = .ok (.aload_n 0, 1) := by decide +kernel
theorem dX6_extend_20 : decode cX6_extend 20 = .ok (.getfield 31, 3) := by decide +kernel
theorem dX6_extend_23 : decode cX6_extend 23 = .ok (.if_icmp .lt 10, 3) := by decide +kernel
theorem dX6_extend_26 : decode cX6_extend 26 = .ok (.aload_n 0, 1) := by decide +kernel
theorem dX6_extend_27 : decode cX6_extend 27 = .ok (.iload 5, 2) := by decide +kernel
theorem dX6_extend_29 : decode cX6_extend 29 = .ok (.invokevirtual 43, 3) := by decide +kernel
theorem dX6_extend_32 : decode cX6_extend 32 = .ok (.return_, 1) := by decide +kernel
theorem dX6_extend_33 : decode cX6_extend 33 = .ok (.iconst 0, 1) := by decide +kernel
theorem dX6_extend_34 : decode cX6_extend 34 = .ok (.istore 6, 2) := by decide +kernel
theorem dX6_extend_36 : decode cX6_extend 36 = .ok (.iload 6, 2) := by decide +kernel
theorem dX6_extend_38 : decode cX6_extend 38 = .ok (.aload_n 0, 1) := by decide +kernel
theorem dX6_extend_39 : decode cX6_extend 39 = .ok (.getfield 31, 3) := by decide +kernel
theorem dX6_extend_42 : decode cX6_extend 42 = .ok (.if_icmp .ge 101, 3) := by decide +kernel
theorem dX6_extend_45 : decode cX6_extend 45 = .ok (.aload_n 0, 1) := by decide +kernel
theorem dX6_extend_46 : decode cX6_extend 46 = .ok (.getfield 21, 3) := by decide +kernel
theorem dX6_extend_49 : decode cX6_extend 49 = .ok (.iload 6, 2) := by decide +kernel
theorem dX6_extend_51 : decode cX6_extend 51 = .ok (.baload, 1) := by decide +kernel
theorem dX6_extend_52 : decode cX6_extend 52 = .ok (.ifCond .ne 85, 3) := by decide +kernel
theorem dX6_extend_55 : decode cX6_extend 55 = .ok (.aload_n 0, 1) := by decide +kernel
theorem dX6_extend_56 : decode cX6_extend 56 = .ok (.getfield 21, 3) := by decide +kernel
theorem dX6_extend_59 : decode cX6_extend 59 = .ok (.iload 6, 2) := by decide +kernel
theorem dX6_extend_61 : decode cX6_extend 61 = .ok (.iconst 1, 1) := by decide +kernel
theorem dX6_extend_62 : decode cX6_extend 62 = .ok (.bastore, 1) := by decide +kernel
theorem dX6_extend_63 : decode cX6_extend 63 = .ok (.aload_n 0, 1) := by decide +kernel
theorem dX6_extend_64 : decode cX6_extend 64 = .ok (.getfield 25, 3) := by decide +kernel
theorem dX6_extend_67 : decode cX6_extend 67 = .ok (.iload_n 1, 1) := by decide +kernel
theorem dX6_extend_68 : decode cX6_extend 68 = .ok (.aload_n 0, 1) := by decide +kernel
theorem dX6_extend_69 : decode cX6_extend 69 = .ok (.getfield 11, 3) := by decide +kernel
theorem dX6_extend_72 : decode cX6_extend 72 = .ok (.iload 6, 2) := by decide +kernel
theorem dX6_extend_74 : decode cX6_extend 74 = .ok (.iaload, 1) := by decide +kernel
theorem dX6_extend_75 : decode cX6_extend 75 = .ok (.iastore, 1) := by decide +kernel
theorem dX6_extend_76 : decode cX6_extend 76 = .ok (.aload_n 0, 1) := by decide +kernel
theorem dX6_extend_77 : decode cX6_extend 77 = .ok (.getfield 15, 3) := by decide +kernel
theorem dX6_extend_80 : decode cX6_extend 80 = .ok (.iload 6, 2) := by decide +kernel
theorem dX6_extend_82 : decode cX6_extend 82 = .ok (.iaload, 1) := by decide +kernel
theorem dX6_extend_83 : decode cX6_extend 83 = .ok (.iload_n 2, 1) := by decide +kernel
theorem dX6_extend_84 : decode cX6_extend 84 = .ok (.isub, 1) := by decide +kernel
theorem dX6_extend_85 : decode cX6_extend 85 = .ok (.invokestatic 47, 3) := by decide +kernel
theorem dX6_extend_88 : decode cX6_extend 88 = .ok (.aload_n 0, 1) := by decide +kernel
theorem dX6_extend_89 : decode cX6_extend 89 = .ok (.getfield 18, 3) := by decide +kernel
theorem dX6_extend_92 : decode cX6_extend 92 = .ok (.iload 6, 2) := by decide +kernel
theorem dX6_extend_94 : decode cX6_extend 94 = .ok (.iaload, 1) := by decide +kernel
theorem dX6_extend_95 : decode cX6_extend 95 = .ok (.iload_n 3, 1) := by decide +kernel
theorem dX6_extend_96 : decode cX6_extend 96 = .ok (.isub, 1) := by decide +kernel
theorem dX6_extend_97 : decode cX6_extend 97 = .ok (.invokestatic 47, 3) := by decide +kernel
theorem dX6_extend_100 : decode cX6_extend 100 = .ok (.iadd, 1) := by decide +kernel
theorem dX6_extend_101 : decode cX6_extend 101 = .ok (.istore 7, 2) := by decide +kernel
theorem dX6_extend_103 : decode cX6_extend 103 = .ok (.aload_n 0, 1) := by decide +kernel
theorem dX6_extend_104 : decode cX6_extend 104 = .ok (.iload_n 1, 1) := by decide +kernel
theorem dX6_extend_105 : decode cX6_extend 105 = .ok (.iconst 1, 1) := by decide +kernel
theorem dX6_extend_106 : decode cX6_extend 106 = .ok (.iadd, 1) := by decide +kernel
theorem dX6_extend_107 : decode cX6_extend 107 = .ok (.aload_n 0, 1) := by decide +kernel
theorem dX6_extend_108 : decode cX6_extend 108 = .ok (.getfield 15, 3) := by decide +kernel
theorem dX6_extend_111 : decode cX6_extend 111 = .ok (.iload 6, 2) := by decide +kernel
theorem dX6_extend_113 : decode cX6_extend 113 = .ok (.iaload, 1) := by decide +kernel
theorem dX6_extend_114 : decode cX6_extend 114 = .ok (.aload_n 0, 1) := by decide +kernel
theorem dX6_extend_115 : decode cX6_extend 115 = .ok (.getfield 18, 3) := by decide +kernel
theorem dX6_extend_118 : decode cX6_extend 118 = .ok (.iload 6, 2) := by decide +kernel
theorem dX6_extend_120 : decode cX6_extend 120 = .ok (.iaload, 1) := by decide +kernel
theorem dX6_extend_121 : decode cX6_extend 121 = .ok (.iload 4, 2) := by decide +kernel
theorem dX6_extend_123 : decode cX6_extend 123 = .ok (.iload 7, 2) := by decide +kernel
theorem dX6_extend_125 : decode cX6_extend 125 = .ok (.iadd, 1) := by decide +kernel
theorem dX6_extend_126 : decode cX6_extend 126 = .ok (.invokestatic 39, 3) := by decide +kernel
theorem dX6_extend_129 : decode cX6_extend 129 = .ok (.aload_n 0, 1) := by decide +kernel
theorem dX6_extend_130 : decode cX6_extend 130 = .ok (.getfield 21, 3) := by decide +kernel
theorem dX6_extend_133 : decode cX6_extend 133 = .ok (.iload 6, 2) := by decide +kernel
theorem dX6_extend_135 : decode cX6_extend 135 = .ok (.iconst 0, 1) := by decide +kernel
theorem dX6_extend_136 : decode cX6_extend 136 = .ok (.bastore, 1) := by decide +kernel
theorem dX6_extend_137 : decode cX6_extend 137 = .ok (.iinc 6 1, 3) := by decide +kernel
theorem dX6_extend_140 : decode cX6_extend 140 = .ok (.goto (-104), 3) := by decide +kernel
theorem dX6_extend_143 : decode cX6_extend 143 = .ok (.return_, 1) := by decide +kernel
theorem dX6_keepTried_0 : decode cX6_keepTried 0 = .ok (.aload_n 0, 1) := by decide +kernel
theorem dX6_keepTried_1 : decode cX6_keepTried 1 = .ok (.iload_n 1, 1) := by decide +kernel
theorem dX6_keepTried_2 : decode cX6_keepTried 2 = .ok (.putfield 35, 3) := by decide +kernel
theorem dX6_keepTried_5 : decode cX6_keepTried 5 = .ok (.iconst 0, 1) := by decide +kernel
theorem dX6_keepTried_6 : decode cX6_keepTried 6 = .ok (.istore_n 2, 1) := by decide +kernel
theorem dX6_keepTried_7 : decode cX6_keepTried 7 = .ok (.iload_n 2, 1) := by decide +kernel
theorem dX6_keepTried_8 : decode cX6_keepTried 8 = .ok (.aload_n 0, 1) := by decide +kernel
theorem dX6_keepTried_9 : decode cX6_keepTried 9 = .ok (.getfield 31, 3) := by decide +kernel
theorem dX6_keepTried_12 : decode cX6_keepTried 12 = .ok (.if_icmp .ge 21, 3) := by decide +kernel
theorem dX6_keepTried_15 : decode cX6_keepTried 15 = .ok (.aload_n 0, 1) := by decide +kernel
theorem dX6_keepTried_16 : decode cX6_keepTried 16 = .ok (.getfield 28, 3) := by decide +kernel
theorem dX6_keepTried_19 : decode cX6_keepTried 19 = .ok (.iload_n 2, 1) := by decide +kernel
theorem dX6_keepTried_20 : decode cX6_keepTried 20 = .ok (.aload_n 0, 1) := by decide +kernel
theorem dX6_keepTried_21 : decode cX6_keepTried 21 = .ok (.getfield 25, 3) := by decide +kernel
theorem dX6_keepTried_24 : decode cX6_keepTried 24 = .ok (.iload_n 2, 1) := by decide +kernel
theorem dX6_keepTried_25 : decode cX6_keepTried 25 = .ok (.iaload, 1) := by decide +kernel
theorem dX6_keepTried_26 : decode cX6_keepTried 26 = .ok (.iastore, 1) := by decide +kernel
theorem dX6_keepTried_27 : decode cX6_keepTried 27 = .ok (.iinc 2 1, 3) := by decide +kernel
theorem dX6_keepTried_30 : decode cX6_keepTried 30 = .ok (.goto (-23), 3) := by decide +kernel
theorem dX6_keepTried_33 : decode cX6_keepTried 33 = .ok (.return_, 1) := by decide +kernel
theorem dJ9_abs_0f7a4_0 : decode cJ9_abs_0f7a4 0 = .ok (.iload_n 0, 1) := by decide +kernel
theorem dJ9_abs_0f7a4_1 : decode cJ9_abs_0f7a4 1 = .ok (.ifCond .ge 8, 3) := by decide +kernel
theorem dJ9_abs_0f7a4_4 : decode cJ9_abs_0f7a4 4 = .ok (.iload_n 0, 1) := by decide +kernel
theorem dJ9_abs_0f7a4_5 : decode cJ9_abs_0f7a4 5 = .ok (.ineg, 1) := by decide +kernel
theorem dJ9_abs_0f7a4_6 : decode cJ9_abs_0f7a4 6 = .ok (.goto 4, 3) := by decide +kernel
theorem dJ9_abs_0f7a4_9 : decode cJ9_abs_0f7a4 9 = .ok (.iload_n 0, 1) := by decide +kernel
theorem dJ9_abs_0f7a4_10 : decode cJ9_abs_0f7a4 10 = .ok (.ireturn, 1) := by decide +kernel
theorem dJ9_max_7cf53_0 : decode cJ9_max_7cf53 0 = .ok (.iload_n 0, 1) := by decide +kernel
theorem dJ9_max_7cf53_1 : decode cJ9_max_7cf53 1 = .ok (.iload_n 1, 1) := by decide +kernel
theorem dJ9_max_7cf53_2 : decode cJ9_max_7cf53 2 = .ok (.if_icmp .lt 7, 3) := by decide +kernel
theorem dJ9_max_7cf53_5 : decode cJ9_max_7cf53 5 = .ok (.iload_n 0, 1) := by decide +kernel
theorem dJ9_max_7cf53_6 : decode cJ9_max_7cf53 6 = .ok (.goto 4, 3) := by decide +kernel
theorem dJ9_max_7cf53_9 : decode cJ9_max_7cf53 9 = .ok (.iload_n 1, 1) := by decide +kernel
theorem dJ9_max_7cf53_10 : decode cJ9_max_7cf53 10 = .ok (.ireturn, 1) := by decide +kernel
end
section
theorem dX7_init_0 : decode cX7_init 0 = .ok (.aload_n 0, 1) := by decide +kernel
theorem dX7_init_1 : decode cX7_init 1 = .ok (.invokespecial 1, 3) := by decide +kernel
theorem dX7_init_4 : decode cX7_init 4 = .ok (.aload_n 0, 1) := by decide +kernel
theorem dX7_init_5 : decode cX7_init 5 = .ok (.new 7, 3) := by decide +kernel
theorem dX7_init_8 : decode cX7_init 8 = .ok (.dup, 1) := by decide +kernel
theorem dX7_init_9 : decode cX7_init 9 = .ok (.invokespecial 9, 3) := by decide +kernel
theorem dX7_init_12 : decode cX7_init 12 = .ok (.putfield 10, 3) := by decide +kernel
theorem dX7_init_15 : decode cX7_init 15 = .ok (.aload_n 0, 1) := by decide +kernel
theorem dX7_init_16 : decode cX7_init 16 = .ok (.new 16, 3) := by decide +kernel
theorem dX7_init_19 : decode cX7_init 19 = .ok (.dup, 1) := by decide +kernel
theorem dX7_init_20 : decode cX7_init 20 = .ok (.invokespecial 18, 3) := by decide +kernel
theorem dX7_init_23 : decode cX7_init 23 = .ok (.putfield 19, 3) := by decide +kernel
theorem dX7_init_26 : decode cX7_init 26 = .ok (.aload_n 0, 1) := by decide +kernel
theorem dX7_init_27 : decode cX7_init 27 = .ok (.new 23, 3) := by decide +kernel
theorem dX7_init_30 : decode cX7_init 30 = .ok (.dup, 1) := by decide +kernel
theorem dX7_init_31 : decode cX7_init 31 = .ok (.invokespecial 25, 3) := by decide +kernel
theorem dX7_init_34 : decode cX7_init 34 = .ok (.putfield 26, 3) := by decide +kernel
theorem dX7_init_37 : decode cX7_init 37 = .ok (.aload_n 0, 1) := by decide +kernel
theorem dX7_init_38 : decode cX7_init 38 = .ok (.new 30, 3) := by decide +kernel
theorem dX7_init_41 : decode cX7_init 41 = .ok (.dup, 1) := by decide +kernel
theorem dX7_init_42 : decode cX7_init 42 = .ok (.invokespecial 32, 3) := by decide +kernel
theorem dX7_init_45 : decode cX7_init 45 = .ok (.putfield 33, 3) := by decide +kernel
theorem dX7_init_48 : decode cX7_init 48 = .ok (.aload_n 0, 1) := by decide +kernel
theorem dX7_init_49 : decode cX7_init 49 = .ok (.new 37, 3) := by decide +kernel
theorem dX7_init_52 : decode cX7_init 52 = .ok (.dup, 1) := by decide +kernel
theorem dX7_init_53 : decode cX7_init 53 = .ok (.invokespecial 39, 3) := by decide +kernel
theorem dX7_init_56 : decode cX7_init 56 = .ok (.putfield 40, 3) := by decide +kernel
theorem dX7_init_59 : decode cX7_init 59 = .ok (.aload_n 0, 1) := by decide +kernel
theorem dX7_init_60 : decode cX7_init 60 = .ok (.new 44, 3) := by decide +kernel
theorem dX7_init_63 : decode cX7_init 63 = .ok (.dup, 1) := by decide +kernel
theorem dX7_init_64 : decode cX7_init 64 = .ok (.invokespecial 46, 3) := by decide +kernel
theorem dX7_init_67 : decode cX7_init 67 = .ok (.putfield 47, 3) := by decide +kernel
theorem dX7_init_70 : decode cX7_init 70 = .ok (.aload_n 0, 1) := by decide +kernel
theorem dX7_init_71 : decode cX7_init 71 = .ok (.new 51, 3) := by decide +kernel
theorem dX7_init_74 : decode cX7_init 74 = .ok (.dup, 1) := by decide +kernel
theorem dX7_init_75 : decode cX7_init 75 = .ok (.invokespecial 53, 3) := by decide +kernel
theorem dX7_init_78 : decode cX7_init 78 = .ok (.putfield 54, 3) := by decide +kernel
theorem dX7_init_81 : decode cX7_init 81 = .ok (.aload_n 0, 1) := by decide +kernel
theorem dX7_init_82 : decode cX7_init 82 = .ok (.iconst 4, 1) := by decide +kernel
theorem dX7_init_83 : decode cX7_init 83 = .ok (.newarray .boolean, 2) := by decide +kernel
theorem dX7_init_85 : decode cX7_init 85 = .ok (.putfield 58, 3) := by decide +kernel
theorem dX7_init_88 : decode cX7_init 88 = .ok (.aload_n 0, 1) := by decide +kernel
theorem dX7_init_89 : decode cX7_init 89 = .ok (.iconst 0, 1) := by decide +kernel
theorem dX7_init_90 : decode cX7_init 90 = .ok (.putfield 62, 3) := by decide +kernel
theorem dX7_init_93 : decode cX7_init 93 = .ok (.aload_n 0, 1) := by decide +kernel
theorem dX7_init_94 : decode cX7_init 94 = .ok (.iconst 1, 1) := by decide +kernel
theorem dX7_init_95 : decode cX7_init 95 = .ok (.putfield 66, 3) := by decide +kernel
theorem dX7_init_98 : decode cX7_init 98 = .ok (.aload_n 0, 1) := by decide +kernel
theorem dX7_init_99 : decode cX7_init 99 = .ok (.lconst 0, 1) := by decide +kernel
theorem dX7_init_100 : decode cX7_init 100 = .ok (.putfield 69, 3) := by decide +kernel
theorem dX7_init_103 : decode cX7_init 103 = .ok (.return_, 1) := by decide +kernel
theorem dX7_type_0 : decode cX7_type 0 = .ok (.iload_n 3, 1) := by decide +kernel
theorem dX7_type_1 : decode cX7_type 1 = .ok (.iconst 1, 1) := by decide +kernel
theorem dX7_type_2 : decode cX7_type 2 = .ok (.bipush 8, 2) := by decide +kernel
theorem dX7_type_4 : decode cX7_type 4 = .ok (.invokestatic 73, 3) := by decide +kernel
theorem dX7_type_7 : decode cX7_type 7 = .ok (.ifCond .ne 5, 3) := by decide +kernel
theorem dX7_type_10 : decode cX7_type 10 = .ok (.iconst (-1), 1) := by decide +kernel
theorem dX7_type_11 : decode cX7_type 11 = .ok (.ireturn, 1) := by decide +kernel
theorem dX7_type_12 : decode cX7_type 12 = .ok (.aload_n 0, 1) := by decide +kernel
theorem dX7_type_13 : decode cX7_type 13 = .ok (.getfield 10, 3) := by decide +kernel
theorem dX7_type_16 : decode cX7_type 16 = .ok (.iload_n 3, 1) := by decide +kernel
theorem dX7_type_17 : decode cX7_type 17 = .ok (.invokevirtual 77, 3) := by decide +kernel
theorem dX7_type_20 : decode cX7_type 20 = .ok (.ifCond .ne 6, 3) := by decide +kernel
theorem dX7_type_23 : decode cX7_type 23 = .ok (.bipush (-3), 2) := by decide +kernel
theorem dX7_type_25 : decode cX7_type 25 = .ok (.ireturn, 1) := by decide +kernel
theorem dX7_type_26 : decode cX7_type 26 = .ok (.aload_n 0, 1) := by decide +kernel
theorem dX7_type_27 : decode cX7_type 27 = .ok (.getfield 10, 3) := by decide +kernel
theorem dX7_type_30 : decode cX7_type 30 = .ok (.lload_n 1, 1) := by decide +kernel
theorem dX7_type_31 : decode cX7_type 31 = .ok (.iload_n 3, 1) := by decide +kernel
theorem dX7_type_32 : decode cX7_type 32 = .ok (.invokevirtual 81, 3) := by decide +kernel
theorem dX7_type_35 : decode cX7_type 35 = .ok (.aload_n 0, 1) := by decide +kernel
theorem dX7_type_36 : decode cX7_type 36 = .ok (.getfield 10, 3) := by decide +kernel
theorem dX7_type_39 : decode cX7_type 39 = .ok (.getfield 85, 3) := by decide +kernel
theorem dX7_type_42 : decode cX7_type 42 = .ok (.ireturn, 1) := by decide +kernel
theorem dX7_clear_0 : decode cX7_clear 0 = .ok (.aload_n 0, 1) := by decide +kernel
theorem dX7_clear_1 : decode cX7_clear 1 = .ok (.getfield 10, 3) := by decide +kernel
theorem dX7_clear_4 : decode cX7_clear 4 = .ok (.invokevirtual 88, 3) := by decide +kernel
theorem dX7_clear_7 : decode cX7_clear 7 = .ok (.ireturn, 1) := by decide +kernel
theorem dX7_law_0 : decode cX7_law 0 = .ok (.aload_n 0, 1) := by decide +kernel
theorem dX7_law_1 : decode cX7_law 1 = .ok (.getfield 10, 3) := by decide +kernel
theorem dX7_law_4 : decode cX7_law 4 = .ok (.getfield 85, 3) := by decide +kernel
theorem dX7_law_7 : decode cX7_law 7 = .ok (.ifCond .ne 6, 3) := by decide +kernel
theorem dX7_law_10 : decode cX7_law 10 = .ok (.bipush (-2), 2) := by decide +kernel
theorem dX7_law_12 : decode cX7_law 12 = .ok (.ireturn, 1) := by decide +kernel
theorem dX7_law_13 : decode cX7_law 13 = .ok (.aload_n 0, 1) := by decide +kernel
theorem dX7_law_14 : decode cX7_law 14 = .ok (.getfield 10, 3) := by decide +kernel
theorem dX7_law_17 : decode cX7_law 17 = .ok (.invokevirtual 92, 3) := by decide +kernel
theorem dX7_law_20 : decode cX7_law 20 = .ok (.istore_n 1, 1) := by decide +kernel
theorem dX7_law_21 : decode cX7_law 21 = .ok (.iload_n 1, 1) := by decide +kernel
theorem dX7_law_22 : decode cX7_law 22 = .ok (.bipush (-9), 2) := by decide +kernel
theorem dX7_law_24 : decode cX7_law 24 = .ok (.if_icmp .eq 8, 3) := by decide +kernel
theorem dX7_law_27 : decode cX7_law 27 = .ok (.bipush (-100), 2) := by decide +kernel
theorem dX7_law_29 : decode cX7_law 29 = .ok (.iload_n 1, 1) := by decide +kernel
theorem dX7_law_30 : decode cX7_law 30 = .ok (.isub, 1) := by decide +kernel
theorem dX7_law_31 : decode cX7_law 31 = .ok (.ireturn, 1) := by decide +kernel
theorem dX7_law_32 : decode cX7_law 32 = .ok (.aload_n 0, 1) := by decide +kernel
theorem dX7_law_33 : decode cX7_law 33 = .ok (.getfield 19, 3) := by decide +kernel
theorem dX7_law_36 : decode cX7_law 36 = .ok (.invokevirtual 95, 3) := by decide +kernel
theorem dX7_law_39 : decode cX7_law 39 = .ok (.ifCond .eq 6, 3) := by decide +kernel
theorem dX7_law_42 : decode cX7_law 42 = .ok (.bipush (-3), 2) := by decide +kernel
theorem dX7_law_44 : decode cX7_law 44 = .ok (.ireturn, 1) := by decide +kernel
theorem dX7_law_45 : decode cX7_law 45 = .ok (.aload_n 0, 1) := by decide +kernel
theorem dX7_law_46 : decode cX7_law 46 = .ok (.getfield 19, 3) := by decide +kernel
theorem dX7_law_49 : decode cX7_law 49 = .ok (.aload_n 0, 1) := by decide +kernel
theorem dX7_law_50 : decode cX7_law 50 = .ok (.getfield 10, 3) := by decide +kernel
theorem dX7_law_53 : decode cX7_law 53 = .ok (.aload_n 0, 1) := by decide +kernel
theorem dX7_law_54 : decode cX7_law 54 = .ok (.getfield 62, 3) := by decide +kernel
theorem dX7_law_57 : decode cX7_law 57 = .ok (.invokevirtual 99, 3) := by decide +kernel
theorem dX7_law_60 : decode cX7_law 60 = .ok (.istore_n 2, 1) := by decide +kernel
theorem dX7_law_61 : decode cX7_law 61 = .ok (.aload_n 0, 1) := by decide +kernel
theorem dX7_law_62 : decode cX7_law 62 = .ok (.getfield 10, 3) := by decide +kernel
theorem dX7_law_65 : decode cX7_law 65 = .ok (.invokevirtual 88, 3) := by decide +kernel
theorem dX7_law_68 : decode cX7_law 68 = .ok (.pop, 1) := by decide +kernel
theorem dX7_law_69 : decode cX7_law 69 = .ok (.iload_n 2, 1) := by decide +kernel
theorem dX7_law_70 : decode cX7_law 70 = .ok (.ireturn, 1) := by decide +kernel
theorem dX7_span_0 : decode cX7_span 0 = .ok (.iload_n 1, 1) := by decide +kernel
theorem dX7_span_1 : decode cX7_span 1 = .ok (.iconst 0, 1) := by decide +kernel
theorem dX7_span_2 : decode cX7_span 2 = .ok (.iconst 2, 1) := by decide +kernel
theorem dX7_span_3 : decode cX7_span 3 = .ok (.invokestatic 73, 3) := by decide +kernel
theorem dX7_span_6 : decode cX7_span 6 = .ok (.ifCond .eq 14, 3) := by decide +kernel
theorem dX7_span_9 : decode cX7_span 9 = .ok (.iload_n 2, 1) := by decide +kernel
theorem dX7_span_10 : decode cX7_span 10 = .ok (.iconst 0, 1) := by decide +kernel
theorem dX7_span_11 : decode cX7_span 11 = .ok (.sipush 500, 3) := by decide +kernel
theorem dX7_span_14 : decode cX7_span 14 = .ok (.invokestatic 73, 3) := by decide +kernel
theorem dX7_span_17 : decode cX7_span 17 = .ok (.ifCond .ne 5, 3) := by decide +kernel
theorem dX7_span_20 : decode cX7_span 20 = .ok (.iconst (-1), 1) := by decide +kernel
theorem dX7_span_21 : decode cX7_span 21 = .ok (.ireturn, 1) := by decide +kernel
theorem dX7_span_22 : decode cX7_span 22 = .ok (.aload_n 0, 1) := by decide +kernel
theorem dX7_span_23 : decode cX7_span 23 = .ok (.getfield 19, 3) := by decide +kernel
theorem dX7_span_26 : decode cX7_span 26 = .ok (.iload_n 1, 1) := by decide +kernel
theorem dX7_span_27 : decode cX7_span 27 = .ok (.iload_n 2, 1) := by decide +kernel
theorem dX7_span_28 : decode cX7_span 28 = .ok (.invokevirtual 103, 3) := by decide +kernel
theorem dX7_span_31 : decode cX7_span 31 = .ok (.ireturn, 1) := by decide +kernel
theorem dX7_days_0 : decode cX7_days 0 = .ok (.iload_n 1, 1) := by decide +kernel
theorem dX7_days_1 : decode cX7_days 1 = .ok (.iconst 1, 1) := by decide +kernel
theorem dX7_days_2 : decode cX7_days 2 = .ok (.bipush 50, 2) := by decide +kernel
theorem dX7_days_4 : decode cX7_days 4 = .ok (.invokestatic 73, 3) := by decide +kernel
theorem dX7_days_7 : decode cX7_days 7 = .ok (.ifCond .ne 5, 3) := by decide +kernel
theorem dX7_days_10 : decode cX7_days 10 = .ok (.iconst (-1), 1) := by decide +kernel
theorem dX7_days_11 : decode cX7_days 11 = .ok (.ireturn, 1) := by decide +kernel
theorem dX7_days_12 : decode cX7_days 12 = .ok (.aload_n 0, 1) := by decide +kernel
theorem dX7_days_13 : decode cX7_days 13 = .ok (.getfield 62, 3) := by decide +kernel
theorem dX7_days_16 : decode cX7_days 16 = .ok (.iload_n 1, 1) := by decide +kernel
theorem dX7_days_17 : decode cX7_days 17 = .ok (.iadd, 1) := by decide +kernel
theorem dX7_days_18 : decode cX7_days 18 = .ok (.sipush 500, 3) := by decide +kernel
theorem dX7_days_21 : decode cX7_days 21 = .ok (.if_icmp .le 6, 3) := by decide +kernel
theorem dX7_days_24 : decode cX7_days 24 = .ok (.bipush (-2), 2) := by decide +kernel
theorem dX7_days_26 : decode cX7_days 26 = .ok (.ireturn, 1) := by decide +kernel
theorem dX7_days_27 : decode cX7_days 27 = .ok (.aload_n 0, 1) := by decide +kernel
theorem dX7_days_28 : decode cX7_days 28 = .ok (.dup, 1) := by decide +kernel
theorem dX7_days_29 : decode cX7_days 29 = .ok (.getfield 62, 3) := by decide +kernel
theorem dX7_days_32 : decode cX7_days 32 = .ok (.iload_n 1, 1) := by decide +kernel
theorem dX7_days_33 : decode cX7_days 33 = .ok (.iadd, 1) := by decide +kernel
theorem dX7_days_34 : decode cX7_days 34 = .ok (.putfield 62, 3) := by decide +kernel
theorem dX7_days_37 : decode cX7_days 37 = .ok (.aload_n 0, 1) := by decide +kernel
theorem dX7_days_38 : decode cX7_days 38 = .ok (.getfield 62, 3) := by decide +kernel
theorem dX7_days_41 : decode cX7_days 41 = .ok (.ireturn, 1) := by decide +kernel
theorem dX7_flue_0 : decode cX7_flue 0 = .ok (.iload_n 1, 1) := by decide +kernel
theorem dX7_flue_1 : decode cX7_flue 1 = .ok (.iload_n 2, 1) := by decide +kernel
theorem dX7_flue_2 : decode cX7_flue 2 = .ok (.iload_n 3, 1) := by decide +kernel
theorem dX7_flue_3 : decode cX7_flue 3 = .ok (.iload 4, 2) := by decide +kernel
theorem dX7_flue_5 : decode cX7_flue 5 = .ok (.iload 5, 2) := by decide +kernel
theorem dX7_flue_7 : decode cX7_flue 7 = .ok (.invokestatic 107, 3) := by decide +kernel
theorem dX7_flue_10 : decode cX7_flue 10 = .ok (.ifCond .eq 21, 3) := by decide +kernel
theorem dX7_flue_13 : decode cX7_flue 13 = .ok (.iload 6, 2) := by decide +kernel
theorem dX7_flue_15 : decode cX7_flue 15 = .ok (.iload 7, 2) := by decide +kernel
theorem dX7_flue_17 : decode cX7_flue 17 = .ok (.invokestatic 111, 3) := by decide +kernel
theorem dX7_flue_20 : decode cX7_flue 20 = .ok (.ifCond .eq 11, 3) := by decide +kernel
theorem dX7_flue_23 : decode cX7_flue 23 = .ok (.iload 8, 2) := by decide +kernel
theorem dX7_flue_25 : decode cX7_flue 25 = .ok (.invokestatic 115, 3) := by decide +kernel
theorem dX7_flue_28 : decode cX7_flue 28 = .ok (.ifCond .ne 5, 3) := by decide +kernel
theorem dX7_flue_31 : decode cX7_flue 31 = .ok (.iconst (-1), 1) := by decide +kernel
theorem dX7_flue_32 : decode cX7_flue 32 = .ok (.ireturn, 1) := by decide +kernel
theorem dX7_flue_33 : decode cX7_flue 33 = .ok (.aload_n 0, 1) := by decide +kernel
theorem dX7_flue_34 : decode cX7_flue 34 = .ok (.getfield 26, 3) := by decide +kernel
theorem dX7_flue_37 : decode cX7_flue 37 = .ok (.invokevirtual 118, 3) := by decide +kernel
theorem dX7_flue_40 : decode cX7_flue 40 = .ok (.ifCond .eq 6, 3) := by decide +kernel
theorem dX7_flue_43 : decode cX7_flue 43 = .ok (.bipush (-3), 2) := by decide +kernel
theorem dX7_flue_45 : decode cX7_flue 45 = .ok (.ireturn, 1) := by decide +kernel
theorem dX7_flue_46 : decode cX7_flue 46 = .ok (.aload_n 0, 1) := by decide +kernel
theorem dX7_flue_47 : decode cX7_flue 47 = .ok (.getfield 26, 3) := by decide +kernel
theorem dX7_flue_50 : decode cX7_flue 50 = .ok (.iload_n 1, 1) := by decide +kernel
theorem dX7_flue_51 : decode cX7_flue 51 = .ok (.iload_n 2, 1) := by decide +kernel
theorem dX7_flue_52 : decode cX7_flue 52 = .ok (.iload_n 3, 1) := by decide +kernel
theorem dX7_flue_53 : decode cX7_flue 53 = .ok (.iload 4, 2) := by decide +kernel
theorem dX7_flue_55 : decode cX7_flue 55 = .ok (.iload 5, 2) := by decide +kernel
theorem dX7_flue_57 : decode cX7_flue 57 = .ok (.invokevirtual 119, 3) := by decide +kernel
theorem dX7_flue_60 : decode cX7_flue 60 = .ok (.aload_n 0, 1) := by decide +kernel
theorem dX7_flue_61 : decode cX7_flue 61 = .ok (.getfield 26, 3) := by decide +kernel
theorem dX7_flue_64 : decode cX7_flue 64 = .ok (.iload 6, 2) := by decide +kernel
theorem dX7_flue_66 : decode cX7_flue 66 = .ok (.iload 7, 2) := by decide +kernel
theorem dX7_flue_68 : decode cX7_flue 68 = .ok (.iload 8, 2) := by decide +kernel
theorem dX7_flue_70 : decode cX7_flue 70 = .ok (.aload_n 0, 1) := by decide +kernel
theorem dX7_flue_71 : decode cX7_flue 71 = .ok (.getfield 62, 3) := by decide +kernel
theorem dX7_flue_74 : decode cX7_flue 74 = .ok (.invokevirtual 123, 3) := by decide +kernel
theorem dX7_flue_77 : decode cX7_flue 77 = .ok (.aload_n 0, 1) := by decide +kernel
theorem dX7_flue_78 : decode cX7_flue 78 = .ok (.getfield 26, 3) := by decide +kernel
theorem dX7_flue_81 : decode cX7_flue 81 = .ok (.invokevirtual 127, 3) := by decide +kernel
theorem dX7_flue_84 : decode cX7_flue 84 = .ok (.ireturn, 1) := by decide +kernel
theorem dX7_draught_0 : decode cX7_draught 0 = .ok (.aload_n 0, 1) := by decide +kernel
theorem dX7_draught_1 : decode cX7_draught 1 = .ok (.getfield 26, 3) := by decide +kernel
theorem dX7_draught_4 : decode cX7_draught 4 = .ok (.iload_n 1, 1) := by decide +kernel
theorem dX7_draught_5 : decode cX7_draught 5 = .ok (.invokevirtual 129, 3) := by decide +kernel
theorem dX7_draught_8 : decode cX7_draught 8 = .ok (.ifCond .ne 5, 3) := by decide +kernel
theorem dX7_draught_11 : decode cX7_draught 11 = .ok (.iconst (-1), 1) := by decide +kernel
theorem dX7_draught_12 : decode cX7_draught 12 = .ok (.ireturn, 1) := by decide +kernel
theorem dX7_draught_13 : decode cX7_draught 13 = .ok (.aload_n 0, 1) := by decide +kernel
theorem dX7_draught_14 : decode cX7_draught 14 = .ok (.getfield 26, 3) := by decide +kernel
theorem dX7_draught_17 : decode cX7_draught 17 = .ok (.getfield 132, 3) := by decide +kernel
theorem dX7_draught_20 : decode cX7_draught 20 = .ok (.iload_n 1, 1) := by decide +kernel
theorem dX7_draught_21 : decode cX7_draught 21 = .ok (.iaload, 1) := by decide +kernel
theorem dX7_draught_22 : decode cX7_draught 22 = .ok (.lookupswitch 38 #[(0, 26), (1, 32)], 26) := by decide +kernel
theorem dX7_draught_48 : decode cX7_draught 48 = .ok (.aload_n 0, 1) := by decide +kernel
theorem dX7_draught_49 : decode cX7_draught 49 = .ok (.iload_n 1, 1) := by decide +kernel
theorem dX7_draught_50 : decode cX7_draught 50 = .ok (.invokevirtual 136, 3) := by decide +kernel
theorem dX7_draught_53 : decode cX7_draught 53 = .ok (.ireturn, 1) := by decide +kernel
theorem dX7_draught_54 : decode cX7_draught 54 = .ok (.aload_n 0, 1) := by decide +kernel
theorem dX7_draught_55 : decode cX7_draught 55 = .ok (.iload_n 1, 1) := by decide +kernel
theorem dX7_draught_56 : decode cX7_draught 56 = .ok (.invokevirtual 140, 3) := by decide +kernel
theorem dX7_draught_59 : decode cX7_draught 59 = .ok (.ireturn, 1) := by decide +kernel
theorem dX7_draught_60 : decode cX7_draught 60 = .ok (.aload_n 0, 1) := by decide +kernel
theorem dX7_draught_61 : decode cX7_draught 61 = .ok (.iload_n 1, 1) := by decide +kernel
theorem dX7_draught_62 : decode cX7_draught 62 = .ok (.invokevirtual 143, 3) := by decide +kernel
theorem dX7_draught_65 : decode cX7_draught 65 = .ok (.ireturn, 1) := by decide +kernel
theorem dX7_about_0 : decode cX7_about 0 = .ok (.aload_n 0, 1) := by decide +kernel
theorem dX7_about_1 : decode cX7_about 1 = .ok (.getfield 26, 3) := by decide +kernel
theorem dX7_about_4 : decode cX7_about 4 = .ok (.iload_n 1, 1) := by decide +kernel
theorem dX7_about_5 : decode cX7_about 5 = .ok (.invokevirtual 129, 3) := by decide +kernel
theorem dX7_about_8 : decode cX7_about 8 = .ok (.ifCond .ne 5, 3) := by decide +kernel
theorem dX7_about_11 : decode cX7_about 11 = .ok (.iconst (-1), 1) := by decide +kernel
theorem dX7_about_12 : decode cX7_about 12 = .ok (.ireturn, 1) := by decide +kernel
theorem dX7_about_13 : decode cX7_about 13 = .ok (.iload_n 2, 1) := by decide +kernel
theorem dX7_about_14 : decode cX7_about 14 = .ok (.tableswitch 121 0 7 #[46, 56, 66, 76, 86, 96, 106, 115], 46) := by decide +kernel
theorem dX7_about_60 : decode cX7_about 60 = .ok (.aload_n 0, 1) := by decide +kernel
theorem dX7_about_61 : decode cX7_about 61 = .ok (.getfield 26, 3) := by decide +kernel
theorem dX7_about_64 : decode cX7_about 64 = .ok (.getfield 132, 3) := by decide +kernel
theorem dX7_about_67 : decode cX7_about 67 = .ok (.iload_n 1, 1) := by decide +kernel
theorem dX7_about_68 : decode cX7_about 68 = .ok (.iaload, 1) := by decide +kernel
theorem dX7_about_69 : decode cX7_about 69 = .ok (.ireturn, 1) := by decide +kernel
theorem dX7_about_70 : decode cX7_about 70 = .ok (.aload_n 0, 1) := by decide +kernel
theorem dX7_about_71 : decode cX7_about 71 = .ok (.getfield 26, 3) := by decide +kernel
theorem dX7_about_74 : decode cX7_about 74 = .ok (.getfield 146, 3) := by decide +kernel
theorem dX7_about_77 : decode cX7_about 77 = .ok (.iload_n 1, 1) := by decide +kernel
theorem dX7_about_78 : decode cX7_about 78 = .ok (.iaload, 1) := by decide +kernel
theorem dX7_about_79 : decode cX7_about 79 = .ok (.ireturn, 1) := by decide +kernel
theorem dX7_about_80 : decode cX7_about 80 = .ok (.aload_n 0, 1) := by decide +kernel
theorem dX7_about_81 : decode cX7_about 81 = .ok (.getfield 26, 3) := by decide +kernel
theorem dX7_about_84 : decode cX7_about 84 = .ok (.getfield 149, 3) := by decide +kernel
theorem dX7_about_87 : decode cX7_about 87 = .ok (.iload_n 1, 1) := by decide +kernel
theorem dX7_about_88 : decode cX7_about 88 = .ok (.iaload, 1) := by decide +kernel
theorem dX7_about_89 : decode cX7_about 89 = .ok (.ireturn, 1) := by decide +kernel
theorem dX7_about_90 : decode cX7_about 90 = .ok (.aload_n 0, 1) := by decide +kernel
theorem dX7_about_91 : decode cX7_about 91 = .ok (.getfield 26, 3) := by decide +kernel
theorem dX7_about_94 : decode cX7_about 94 = .ok (.getfield 152, 3) := by decide +kernel
theorem dX7_about_97 : decode cX7_about 97 = .ok (.iload_n 1, 1) := by decide +kernel
theorem dX7_about_98 : decode cX7_about 98 = .ok (.iaload, 1) := by decide +kernel
theorem dX7_about_99 : decode cX7_about 99 = .ok (.ireturn, 1) := by decide +kernel
theorem dX7_about_100 : decode cX7_about 100 = .ok (.aload_n 0, 1) := by decide +kernel
theorem dX7_about_101 : decode cX7_about 101 = .ok (.iload_n 1, 1) := by decide +kernel
theorem dX7_about_102 : decode cX7_about 102 = .ok (.aload_n 0, 1) := by decide +kernel
theorem dX7_about_103 : decode cX7_about 103 = .ok (.getfield 62, 3) := by decide +kernel
theorem dX7_about_106 : decode cX7_about 106 = .ok (.invokevirtual 155, 3) := by decide +kernel
theorem dX7_about_109 : decode cX7_about 109 = .ok (.ireturn, 1) := by decide +kernel
theorem dX7_about_110 : decode cX7_about 110 = .ok (.aload_n 0, 1) := by decide +kernel
theorem dX7_about_111 : decode cX7_about 111 = .ok (.getfield 26, 3) := by decide +kernel
theorem dX7_about_114 : decode cX7_about 114 = .ok (.getfield 158, 3) := by decide +kernel
theorem dX7_about_117 : decode cX7_about 117 = .ok (.iload_n 1, 1) := by decide +kernel
theorem dX7_about_118 : decode cX7_about 118 = .ok (.iaload, 1) := by decide +kernel
theorem dX7_about_119 : decode cX7_about 119 = .ok (.ireturn, 1) := by decide +kernel
theorem dX7_about_120 : decode cX7_about 120 = .ok (.aload_n 0, 1) := by decide +kernel
theorem dX7_about_121 : decode cX7_about 121 = .ok (.iload_n 1, 1) := by decide +kernel
theorem dX7_about_122 : decode cX7_about 122 = .ok (.invokevirtual 161, 3) := by decide +kernel
theorem dX7_about_125 : decode cX7_about 125 = .ok (.invokestatic 164, 3) := by decide +kernel
theorem dX7_about_128 : decode cX7_about 128 = .ok (.ireturn, 1) := by decide +kernel
theorem dX7_about_129 : decode cX7_about 129 = .ok (.aload_n 0, 1) := by decide +kernel
theorem dX7_about_130 : decode cX7_about 130 = .ok (.iload_n 1, 1) := by decide +kernel
theorem dX7_about_131 : decode cX7_about 131 = .ok (.invokevirtual 168, 3) := by decide +kernel
theorem dX7_about_134 : decode cX7_about 134 = .ok (.ireturn, 1) := by decide +kernel
theorem dX7_about_135 : decode cX7_about 135 = .ok (.iconst (-1), 1) := by decide +kernel
theorem dX7_about_136 : decode cX7_about 136 = .ok (.ireturn, 1) := by decide +kernel
theorem dX7_due_0 : decode cX7_due 0 = .ok (.aload_n 0, 1) := by decide +kernel
theorem dX7_due_1 : decode cX7_due 1 = .ok (.getfield 26, 3) := by decide +kernel
theorem dX7_due_4 : decode cX7_due 4 = .ok (.iload_n 1, 1) := by decide +kernel
theorem dX7_due_5 : decode cX7_due 5 = .ok (.invokevirtual 129, 3) := by decide +kernel
theorem dX7_due_8 : decode cX7_due 8 = .ok (.ifCond .ne 5, 3) := by decide +kernel
theorem dX7_due_11 : decode cX7_due 11 = .ok (.iconst (-1), 1) := by decide +kernel
theorem dX7_due_12 : decode cX7_due 12 = .ok (.ireturn, 1) := by decide +kernel
theorem dX7_due_13 : decode cX7_due 13 = .ok (.aload_n 0, 1) := by decide +kernel
theorem dX7_due_14 : decode cX7_due 14 = .ok (.iload_n 1, 1) := by decide +kernel
theorem dX7_due_15 : decode cX7_due 15 = .ok (.invokevirtual 171, 3) := by decide +kernel
theorem dX7_due_18 : decode cX7_due 18 = .ok (.ireturn, 1) := by decide +kernel
theorem dX7_beyond_0 : decode cX7_beyond 0 = .ok (.iconst 0, 1) := by decide +kernel
theorem dX7_beyond_1 : decode cX7_beyond 1 = .ok (.istore_n 1, 1) := by decide +kernel
theorem dX7_beyond_2 : decode cX7_beyond 2 = .ok (.iconst 0, 1) := by decide +kernel
theorem dX7_beyond_3 : decode cX7_beyond 3 = .ok (.istore_n 2, 1) := by decide +kernel
theorem dX7_beyond_4 : decode cX7_beyond 4 = .ok (.iload_n 2, 1) := by decide +kernel
theorem dX7_beyond_5 : decode cX7_beyond 5 = .ok (.aload_n 0, 1) := by decide +kernel
theorem dX7_beyond_6 : decode cX7_beyond 6 = .ok (.getfield 26, 3) := by decide +kernel
theorem dX7_beyond_9 : decode cX7_beyond 9 = .ok (.getfield 174, 3) := by decide +kernel
theorem dX7_beyond_12 : decode cX7_beyond 12 = .ok (.if_icmp .ge 32, 3) := by decide +kernel
theorem dX7_beyond_15 : decode cX7_beyond 15 = .ok (.aload_n 0, 1) := by decide +kernel
theorem dX7_beyond_16 : decode cX7_beyond 16 = .ok (.iload_n 2, 1) := by decide +kernel
theorem dX7_beyond_17 : decode cX7_beyond 17 = .ok (.invokevirtual 161, 3) := by decide +kernel
theorem dX7_beyond_20 : decode cX7_beyond 20 = .ok (.ifCond .ne 18, 3) := by decide +kernel
theorem dX7_beyond_23 : decode cX7_beyond 23 = .ok (.aload_n 0, 1) := by decide +kernel
theorem dX7_beyond_24 : decode cX7_beyond 24 = .ok (.iload_n 2, 1) := by decide +kernel
theorem dX7_beyond_25 : decode cX7_beyond 25 = .ok (.aload_n 0, 1) := by decide +kernel
theorem dX7_beyond_26 : decode cX7_beyond 26 = .ok (.getfield 62, 3) := by decide +kernel
theorem dX7_beyond_29 : decode cX7_beyond 29 = .ok (.invokevirtual 175, 3) := by decide +kernel
theorem dX7_beyond_32 : decode cX7_beyond 32 = .ok (.ifCond .eq 6, 3) := by decide +kernel
theorem dX7_beyond_35 : decode cX7_beyond 35 = .ok (.iinc 1 1, 3) := by decide +kernel
theorem dX7_beyond_38 : decode cX7_beyond 38 = .ok (.iinc 2 1, 3) := by decide +kernel
theorem dX7_beyond_41 : decode cX7_beyond 41 = .ok (.goto (-37), 3) := by decide +kernel
theorem dX7_beyond_44 : decode cX7_beyond 44 = .ok (.iload_n 1, 1) := by decide +kernel
theorem dX7_beyond_45 : decode cX7_beyond 45 = .ok (.ireturn, 1) := by decide +kernel
theorem dX7_sweep_0 : decode cX7_sweep 0 = .ok (.aload_n 0, 1) := by decide +kernel
theorem dX7_sweep_1 : decode cX7_sweep 1 = .ok (.getfield 26, 3) := by decide +kernel
theorem dX7_sweep_4 : decode cX7_sweep 4 = .ok (.iload_n 1, 1) := by decide +kernel
theorem dX7_sweep_5 : decode cX7_sweep 5 = .ok (.invokevirtual 129, 3) := by decide +kernel
theorem dX7_sweep_8 : decode cX7_sweep 8 = .ok (.ifCond .ne 5, 3) := by decide +kernel
theorem dX7_sweep_11 : decode cX7_sweep 11 = .ok (.iconst (-1), 1) := by decide +kernel
theorem dX7_sweep_12 : decode cX7_sweep 12 = .ok (.ireturn, 1) := by decide +kernel
theorem dX7_sweep_13 : decode cX7_sweep 13 = .ok (.aload_n 0, 1) := by decide +kernel
theorem dX7_sweep_14 : decode cX7_sweep 14 = .ok (.iload_n 1, 1) := by decide +kernel
theorem dX7_sweep_15 : decode cX7_sweep 15 = .ok (.invokevirtual 168, 3) := by decide +kernel
theorem dX7_sweep_18 : decode cX7_sweep 18 = .ok (.istore_n 2, 1) := by decide +kernel
theorem dX7_sweep_19 : decode cX7_sweep 19 = .ok (.aload_n 0, 1) := by decide +kernel
theorem dX7_sweep_20 : decode cX7_sweep 20 = .ok (.iload_n 1, 1) := by decide +kernel
theorem dX7_sweep_21 : decode cX7_sweep 21 = .ok (.invokevirtual 161, 3) := by decide +kernel
theorem dX7_sweep_24 : decode cX7_sweep 24 = .ok (.ifCond .ne 9, 3) := by decide +kernel
theorem dX7_sweep_27 : decode cX7_sweep 27 = .ok (.iload_n 2, 1) := by decide +kernel
theorem dX7_sweep_28 : decode cX7_sweep 28 = .ok (.bipush (-9), 2) := by decide +kernel
theorem dX7_sweep_30 : decode cX7_sweep 30 = .ok (.if_icmp .ne 6, 3) := by decide +kernel
theorem dX7_sweep_33 : decode cX7_sweep 33 = .ok (.bipush (-2), 2) := by decide +kernel
theorem dX7_sweep_35 : decode cX7_sweep 35 = .ok (.ireturn, 1) := by decide +kernel
theorem dX7_sweep_36 : decode cX7_sweep 36 = .ok (.aload_n 0, 1) := by decide +kernel
theorem dX7_sweep_37 : decode cX7_sweep 37 = .ok (.getfield 47, 3) := by decide +kernel
theorem dX7_sweep_40 : decode cX7_sweep 40 = .ok (.invokevirtual 178, 3) := by decide +kernel
theorem dX7_sweep_43 : decode cX7_sweep 43 = .ok (.ifCond .eq 6, 3) := by decide +kernel
theorem dX7_sweep_46 : decode cX7_sweep 46 = .ok (.bipush (-3), 2) := by decide +kernel
theorem dX7_sweep_48 : decode cX7_sweep 48 = .ok (.ireturn, 1) := by decide +kernel
theorem dX7_sweep_49 : decode cX7_sweep 49 = .ok (.aload_n 0, 1) := by decide +kernel
theorem dX7_sweep_50 : decode cX7_sweep 50 = .ok (.getfield 26, 3) := by decide +kernel
theorem dX7_sweep_53 : decode cX7_sweep 53 = .ok (.getfield 149, 3) := by decide +kernel
theorem dX7_sweep_56 : decode cX7_sweep 56 = .ok (.iload_n 1, 1) := by decide +kernel
theorem dX7_sweep_57 : decode cX7_sweep 57 = .ok (.iaload, 1) := by decide +kernel
theorem dX7_sweep_58 : decode cX7_sweep 58 = .ok (.aload_n 0, 1) := by decide +kernel
theorem dX7_sweep_59 : decode cX7_sweep 59 = .ok (.getfield 66, 3) := by decide +kernel
theorem dX7_sweep_62 : decode cX7_sweep 62 = .ok (.imul, 1) := by decide +kernel
theorem dX7_sweep_63 : decode cX7_sweep 63 = .ok (.istore_n 3, 1) := by decide +kernel
theorem dX7_sweep_64 : decode cX7_sweep 64 = .ok (.aload_n 0, 1) := by decide +kernel
theorem dX7_sweep_65 : decode cX7_sweep 65 = .ok (.getfield 47, 3) := by decide +kernel
theorem dX7_sweep_68 : decode cX7_sweep 68 = .ok (.iload_n 1, 1) := by decide +kernel
theorem dX7_sweep_69 : decode cX7_sweep 69 = .ok (.aload_n 0, 1) := by decide +kernel
theorem dX7_sweep_70 : decode cX7_sweep 70 = .ok (.getfield 62, 3) := by decide +kernel
theorem dX7_sweep_73 : decode cX7_sweep 73 = .ok (.iload_n 2, 1) := by decide +kernel
theorem dX7_sweep_74 : decode cX7_sweep 74 = .ok (.iload_n 3, 1) := by decide +kernel
theorem dX7_sweep_75 : decode cX7_sweep 75 = .ok (.invokevirtual 179, 3) := by decide +kernel
theorem dX7_sweep_78 : decode cX7_sweep 78 = .ok (.aload_n 0, 1) := by decide +kernel
theorem dX7_sweep_79 : decode cX7_sweep 79 = .ok (.getfield 26, 3) := by decide +kernel
theorem dX7_sweep_82 : decode cX7_sweep 82 = .ok (.getfield 158, 3) := by decide +kernel
theorem dX7_sweep_85 : decode cX7_sweep 85 = .ok (.iload_n 1, 1) := by decide +kernel
theorem dX7_sweep_86 : decode cX7_sweep 86 = .ok (.iconst 0, 1) := by decide +kernel
theorem dX7_sweep_87 : decode cX7_sweep 87 = .ok (.iastore, 1) := by decide +kernel
theorem dX7_sweep_88 : decode cX7_sweep 88 = .ok (.iload_n 3, 1) := by decide +kernel
theorem dX7_sweep_89 : decode cX7_sweep 89 = .ok (.ireturn, 1) := by decide +kernel
theorem dX7_refuse_0 : decode cX7_refuse 0 = .ok (.aload_n 0, 1) := by decide +kernel
theorem dX7_refuse_1 : decode cX7_refuse 1 = .ok (.getfield 26, 3) := by decide +kernel
theorem dX7_refuse_4 : decode cX7_refuse 4 = .ok (.iload_n 1, 1) := by decide +kernel
theorem dX7_refuse_5 : decode cX7_refuse 5 = .ok (.invokevirtual 129, 3) := by decide +kernel
theorem dX7_refuse_8 : decode cX7_refuse 8 = .ok (.ifCond .ne 5, 3) := by decide +kernel
theorem dX7_refuse_11 : decode cX7_refuse 11 = .ok (.iconst (-1), 1) := by decide +kernel
theorem dX7_refuse_12 : decode cX7_refuse 12 = .ok (.ireturn, 1) := by decide +kernel
theorem dX7_refuse_13 : decode cX7_refuse 13 = .ok (.aload_n 0, 1) := by decide +kernel
theorem dX7_refuse_14 : decode cX7_refuse 14 = .ok (.iload_n 1, 1) := by decide +kernel
theorem dX7_refuse_15 : decode cX7_refuse 15 = .ok (.invokevirtual 161, 3) := by decide +kernel
theorem dX7_refuse_18 : decode cX7_refuse 18 = .ok (.ifCond .eq 6, 3) := by decide +kernel
theorem dX7_refuse_21 : decode cX7_refuse 21 = .ok (.bipush (-2), 2) := by decide +kernel
theorem dX7_refuse_23 : decode cX7_refuse 23 = .ok (.ireturn, 1) := by decide +kernel
theorem dX7_refuse_24 : decode cX7_refuse 24 = .ok (.aload_n 0, 1) := by decide +kernel
theorem dX7_refuse_25 : decode cX7_refuse 25 = .ok (.getfield 26, 3) := by decide +kernel
theorem dX7_refuse_28 : decode cX7_refuse 28 = .ok (.getfield 158, 3) := by decide +kernel
theorem dX7_refuse_31 : decode cX7_refuse 31 = .ok (.iload_n 1, 1) := by decide +kernel
theorem dX7_refuse_32 : decode cX7_refuse 32 = .ok (.dup2, 1) := by decide +kernel
theorem dX7_refuse_33 : decode cX7_refuse 33 = .ok (.iaload, 1) := by decide +kernel
theorem dX7_refuse_34 : decode cX7_refuse 34 = .ok (.iconst 1, 1) := by decide +kernel
theorem dX7_refuse_35 : decode cX7_refuse 35 = .ok (.iadd, 1) := by decide +kernel
theorem dX7_refuse_36 : decode cX7_refuse 36 = .ok (.iastore, 1) := by decide +kernel
theorem dX7_refuse_37 : decode cX7_refuse 37 = .ok (.aload_n 0, 1) := by decide +kernel
theorem dX7_refuse_38 : decode cX7_refuse 38 = .ok (.getfield 26, 3) := by decide +kernel
theorem dX7_refuse_41 : decode cX7_refuse 41 = .ok (.getfield 158, 3) := by decide +kernel
theorem dX7_refuse_44 : decode cX7_refuse 44 = .ok (.iload_n 1, 1) := by decide +kernel
theorem dX7_refuse_45 : decode cX7_refuse 45 = .ok (.iaload, 1) := by decide +kernel
theorem dX7_refuse_46 : decode cX7_refuse 46 = .ok (.ireturn, 1) := by decide +kernel
theorem dX7_look_0 : decode cX7_look 0 = .ok (.aload_n 0, 1) := by decide +kernel
theorem dX7_look_1 : decode cX7_look 1 = .ok (.getfield 26, 3) := by decide +kernel
theorem dX7_look_4 : decode cX7_look 4 = .ok (.iload_n 1, 1) := by decide +kernel
theorem dX7_look_5 : decode cX7_look 5 = .ok (.invokevirtual 129, 3) := by decide +kernel
theorem dX7_look_8 : decode cX7_look 8 = .ok (.ifCond .eq 15, 3) := by decide +kernel
theorem dX7_look_11 : decode cX7_look 11 = .ok (.iload_n 2, 1) := by decide +kernel
theorem dX7_look_12 : decode cX7_look 12 = .ok (.iconst 0, 1) := by decide +kernel
theorem dX7_look_13 : decode cX7_look 13 = .ok (.aload_n 0, 1) := by decide +kernel
theorem dX7_look_14 : decode cX7_look 14 = .ok (.getfield 62, 3) := by decide +kernel
theorem dX7_look_17 : decode cX7_look 17 = .ok (.invokestatic 73, 3) := by decide +kernel
theorem dX7_look_20 : decode cX7_look 20 = .ok (.ifCond .ne 5, 3) := by decide +kernel
theorem dX7_look_23 : decode cX7_look 23 = .ok (.iconst (-1), 1) := by decide +kernel
theorem dX7_look_24 : decode cX7_look 24 = .ok (.ireturn, 1) := by decide +kernel
theorem dX7_look_25 : decode cX7_look 25 = .ok (.aload_n 0, 1) := by decide +kernel
theorem dX7_look_26 : decode cX7_look 26 = .ok (.getfield 26, 3) := by decide +kernel
theorem dX7_look_29 : decode cX7_look 29 = .ok (.getfield 181, 3) := by decide +kernel
theorem dX7_look_32 : decode cX7_look 32 = .ok (.iload_n 1, 1) := by decide +kernel
theorem dX7_look_33 : decode cX7_look 33 = .ok (.iaload, 1) := by decide +kernel
theorem dX7_look_34 : decode cX7_look 34 = .ok (.iload_n 2, 1) := by decide +kernel
theorem dX7_look_35 : decode cX7_look 35 = .ok (.if_icmp .le 6, 3) := by decide +kernel
theorem dX7_look_38 : decode cX7_look 38 = .ok (.bipush (-2), 2) := by decide +kernel
theorem dX7_look_40 : decode cX7_look 40 = .ok (.ireturn, 1) := by decide +kernel
theorem dX7_look_41 : decode cX7_look 41 = .ok (.aload_n 0, 1) := by decide +kernel
theorem dX7_look_42 : decode cX7_look 42 = .ok (.getfield 33, 3) := by decide +kernel
theorem dX7_look_45 : decode cX7_look 45 = .ok (.invokevirtual 184, 3) := by decide +kernel
theorem dX7_look_48 : decode cX7_look 48 = .ok (.ifCond .eq 6, 3) := by decide +kernel
theorem dX7_look_51 : decode cX7_look 51 = .ok (.bipush (-3), 2) := by decide +kernel
theorem dX7_look_53 : decode cX7_look 53 = .ok (.ireturn, 1) := by decide +kernel
theorem dX7_look_54 : decode cX7_look 54 = .ok (.iload_n 3, 1) := by decide +kernel
theorem dX7_look_55 : decode cX7_look 55 = .ok (.ifCond .eq 13, 3) := by decide +kernel
theorem dX7_look_58 : decode cX7_look 58 = .ok (.aload_n 0, 1) := by decide +kernel
theorem dX7_look_59 : decode cX7_look 59 = .ok (.getfield 26, 3) := by decide +kernel
theorem dX7_look_62 : decode cX7_look 62 = .ok (.getfield 158, 3) := by decide +kernel
theorem dX7_look_65 : decode cX7_look 65 = .ok (.iload_n 1, 1) := by decide +kernel
theorem dX7_look_66 : decode cX7_look 66 = .ok (.iconst 0, 1) := by decide +kernel
theorem dX7_look_67 : decode cX7_look 67 = .ok (.iastore, 1) := by decide +kernel
theorem dX7_look_68 : decode cX7_look 68 = .ok (.aload_n 0, 1) := by decide +kernel
theorem dX7_look_69 : decode cX7_look 69 = .ok (.getfield 33, 3) := by decide +kernel
theorem dX7_look_72 : decode cX7_look 72 = .ok (.iload_n 1, 1) := by decide +kernel
theorem dX7_look_73 : decode cX7_look 73 = .ok (.iload_n 2, 1) := by decide +kernel
theorem dX7_look_74 : decode cX7_look 74 = .ok (.aload_n 0, 1) := by decide +kernel
theorem dX7_look_75 : decode cX7_look 75 = .ok (.getfield 62, 3) := by decide +kernel
theorem dX7_look_78 : decode cX7_look 78 = .ok (.iload_n 3, 1) := by decide +kernel
theorem dX7_look_79 : decode cX7_look 79 = .ok (.invokevirtual 185, 3) := by decide +kernel
theorem dX7_look_82 : decode cX7_look 82 = .ok (.ireturn, 1) := by decide +kernel
theorem dX7_known_0 : decode cX7_known 0 = .ok (.aload_n 0, 1) := by decide +kernel
theorem dX7_known_1 : decode cX7_known 1 = .ok (.getfield 26, 3) := by decide +kernel
theorem dX7_known_4 : decode cX7_known 4 = .ok (.iload_n 1, 1) := by decide +kernel
theorem dX7_known_5 : decode cX7_known 5 = .ok (.invokevirtual 129, 3) := by decide +kernel
theorem dX7_known_8 : decode cX7_known 8 = .ok (.ifCond .eq 15, 3) := by decide +kernel
theorem dX7_known_11 : decode cX7_known 11 = .ok (.iload_n 2, 1) := by decide +kernel
theorem dX7_known_12 : decode cX7_known 12 = .ok (.iconst 0, 1) := by decide +kernel
theorem dX7_known_13 : decode cX7_known 13 = .ok (.aload_n 0, 1) := by decide +kernel
theorem dX7_known_14 : decode cX7_known 14 = .ok (.getfield 62, 3) := by decide +kernel
theorem dX7_known_17 : decode cX7_known 17 = .ok (.invokestatic 73, 3) := by decide +kernel
theorem dX7_known_20 : decode cX7_known 20 = .ok (.ifCond .ne 5, 3) := by decide +kernel
theorem dX7_known_23 : decode cX7_known 23 = .ok (.iconst (-1), 1) := by decide +kernel
theorem dX7_known_24 : decode cX7_known 24 = .ok (.ireturn, 1) := by decide +kernel
theorem dX7_known_25 : decode cX7_known 25 = .ok (.aload_n 0, 1) := by decide +kernel
theorem dX7_known_26 : decode cX7_known 26 = .ok (.getfield 33, 3) := by decide +kernel
theorem dX7_known_29 : decode cX7_known 29 = .ok (.iload_n 1, 1) := by decide +kernel
theorem dX7_known_30 : decode cX7_known 30 = .ok (.iload_n 2, 1) := by decide +kernel
theorem dX7_known_31 : decode cX7_known 31 = .ok (.invokevirtual 188, 3) := by decide +kernel
theorem dX7_known_34 : decode cX7_known 34 = .ok (.ireturn, 1) := by decide +kernel
theorem dX7_fire_0 : decode cX7_fire 0 = .ok (.aload_n 0, 1) := by decide +kernel
theorem dX7_fire_1 : decode cX7_fire 1 = .ok (.getfield 26, 3) := by decide +kernel
theorem dX7_fire_4 : decode cX7_fire 4 = .ok (.iload_n 1, 1) := by decide +kernel
theorem dX7_fire_5 : decode cX7_fire 5 = .ok (.invokevirtual 129, 3) := by decide +kernel
theorem dX7_fire_8 : decode cX7_fire 8 = .ok (.ifCond .eq 15, 3) := by decide +kernel
theorem dX7_fire_11 : decode cX7_fire 11 = .ok (.iload_n 2, 1) := by decide +kernel
theorem dX7_fire_12 : decode cX7_fire 12 = .ok (.iconst 0, 1) := by decide +kernel
theorem dX7_fire_13 : decode cX7_fire 13 = .ok (.aload_n 0, 1) := by decide +kernel
theorem dX7_fire_14 : decode cX7_fire 14 = .ok (.getfield 62, 3) := by decide +kernel
theorem dX7_fire_17 : decode cX7_fire 17 = .ok (.invokestatic 73, 3) := by decide +kernel
theorem dX7_fire_20 : decode cX7_fire 20 = .ok (.ifCond .ne 5, 3) := by decide +kernel
theorem dX7_fire_23 : decode cX7_fire 23 = .ok (.iconst (-1), 1) := by decide +kernel
theorem dX7_fire_24 : decode cX7_fire 24 = .ok (.ireturn, 1) := by decide +kernel
theorem dX7_fire_25 : decode cX7_fire 25 = .ok (.aload_n 0, 1) := by decide +kernel
theorem dX7_fire_26 : decode cX7_fire 26 = .ok (.getfield 26, 3) := by decide +kernel
theorem dX7_fire_29 : decode cX7_fire 29 = .ok (.getfield 181, 3) := by decide +kernel
theorem dX7_fire_32 : decode cX7_fire 32 = .ok (.iload_n 1, 1) := by decide +kernel
theorem dX7_fire_33 : decode cX7_fire 33 = .ok (.iaload, 1) := by decide +kernel
theorem dX7_fire_34 : decode cX7_fire 34 = .ok (.iload_n 2, 1) := by decide +kernel
theorem dX7_fire_35 : decode cX7_fire 35 = .ok (.if_icmp .le 6, 3) := by decide +kernel
theorem dX7_fire_38 : decode cX7_fire 38 = .ok (.bipush (-2), 2) := by decide +kernel
theorem dX7_fire_40 : decode cX7_fire 40 = .ok (.ireturn, 1) := by decide +kernel
theorem dX7_fire_41 : decode cX7_fire 41 = .ok (.aload_n 0, 1) := by decide +kernel
theorem dX7_fire_42 : decode cX7_fire 42 = .ok (.getfield 40, 3) := by decide +kernel
theorem dX7_fire_45 : decode cX7_fire 45 = .ok (.invokevirtual 191, 3) := by decide +kernel
theorem dX7_fire_48 : decode cX7_fire 48 = .ok (.ifCond .eq 6, 3) := by decide +kernel
theorem dX7_fire_51 : decode cX7_fire 51 = .ok (.bipush (-3), 2) := by decide +kernel
theorem dX7_fire_53 : decode cX7_fire 53 = .ok (.ireturn, 1) := by decide +kernel
theorem dX7_fire_54 : decode cX7_fire 54 = .ok (.aload_n 0, 1) := by decide +kernel
theorem dX7_fire_55 : decode cX7_fire 55 = .ok (.getfield 40, 3) := by decide +kernel
theorem dX7_fire_58 : decode cX7_fire 58 = .ok (.iload_n 1, 1) := by decide +kernel
theorem dX7_fire_59 : decode cX7_fire 59 = .ok (.iload_n 2, 1) := by decide +kernel
theorem dX7_fire_60 : decode cX7_fire 60 = .ok (.invokevirtual 192, 3) := by decide +kernel
theorem dX7_fire_63 : decode cX7_fire 63 = .ok (.ireturn, 1) := by decide +kernel
theorem dX7_back_0 : decode cX7_back 0 = .ok (.aload_n 0, 1) := by decide +kernel
theorem dX7_back_1 : decode cX7_back 1 = .ok (.getfield 40, 3) := by decide +kernel
theorem dX7_back_4 : decode cX7_back 4 = .ok (.iload_n 1, 1) := by decide +kernel
theorem dX7_back_5 : decode cX7_back 5 = .ok (.invokevirtual 194, 3) := by decide +kernel
theorem dX7_back_8 : decode cX7_back 8 = .ok (.ifCond .ne 5, 3) := by decide +kernel
theorem dX7_back_11 : decode cX7_back 11 = .ok (.iconst (-1), 1) := by decide +kernel
theorem dX7_back_12 : decode cX7_back 12 = .ok (.ireturn, 1) := by decide +kernel
theorem dX7_back_13 : decode cX7_back 13 = .ok (.aload_n 0, 1) := by decide +kernel
theorem dX7_back_14 : decode cX7_back 14 = .ok (.getfield 40, 3) := by decide +kernel
theorem dX7_back_17 : decode cX7_back 17 = .ok (.getfield 195, 3) := by decide +kernel
theorem dX7_back_20 : decode cX7_back 20 = .ok (.iload_n 1, 1) := by decide +kernel
theorem dX7_back_21 : decode cX7_back 21 = .ok (.iaload, 1) := by decide +kernel
theorem dX7_back_22 : decode cX7_back 22 = .ok (.istore_n 3, 1) := by decide +kernel
theorem dX7_back_23 : decode cX7_back 23 = .ok (.aload_n 0, 1) := by decide +kernel
theorem dX7_back_24 : decode cX7_back 24 = .ok (.getfield 40, 3) := by decide +kernel
theorem dX7_back_27 : decode cX7_back 27 = .ok (.getfield 198, 3) := by decide +kernel
theorem dX7_back_30 : decode cX7_back 30 = .ok (.iload_n 1, 1) := by decide +kernel
theorem dX7_back_31 : decode cX7_back 31 = .ok (.iaload, 1) := by decide +kernel
theorem dX7_back_32 : decode cX7_back 32 = .ok (.istore 4, 2) := by decide +kernel
theorem dX7_back_34 : decode cX7_back 34 = .ok (.iload_n 2, 1) := by decide +kernel
theorem dX7_back_35 : decode cX7_back 35 = .ok (.tableswitch 80 0 5 #[37, 39, 42, 50, 58, 69], 37) := by decide +kernel
theorem dX7_back_72 : decode cX7_back 72 = .ok (.iload_n 3, 1) := by decide +kernel
theorem dX7_back_73 : decode cX7_back 73 = .ok (.ireturn, 1) := by decide +kernel
theorem dX7_back_74 : decode cX7_back 74 = .ok (.iload 4, 2) := by decide +kernel
theorem dX7_back_76 : decode cX7_back 76 = .ok (.ireturn, 1) := by decide +kernel
theorem dX7_back_77 : decode cX7_back 77 = .ok (.aload_n 0, 1) := by decide +kernel
theorem dX7_back_78 : decode cX7_back 78 = .ok (.iload_n 3, 1) := by decide +kernel
theorem dX7_back_79 : decode cX7_back 79 = .ok (.iload 4, 2) := by decide +kernel
theorem dX7_back_81 : decode cX7_back 81 = .ok (.invokevirtual 155, 3) := by decide +kernel
theorem dX7_back_84 : decode cX7_back 84 = .ok (.ireturn, 1) := by decide +kernel
theorem dX7_back_85 : decode cX7_back 85 = .ok (.aload_n 0, 1) := by decide +kernel
theorem dX7_back_86 : decode cX7_back 86 = .ok (.iload_n 3, 1) := by decide +kernel
theorem dX7_back_87 : decode cX7_back 87 = .ok (.iload 4, 2) := by decide +kernel
theorem dX7_back_89 : decode cX7_back 89 = .ok (.invokevirtual 201, 3) := by decide +kernel
theorem dX7_back_92 : decode cX7_back 92 = .ok (.ireturn, 1) := by decide +kernel
theorem dX7_back_93 : decode cX7_back 93 = .ok (.aload_n 0, 1) := by decide +kernel
theorem dX7_back_94 : decode cX7_back 94 = .ok (.iload_n 3, 1) := by decide +kernel
theorem dX7_back_95 : decode cX7_back 95 = .ok (.iload 4, 2) := by decide +kernel
theorem dX7_back_97 : decode cX7_back 97 = .ok (.invokevirtual 175, 3) := by decide +kernel
theorem dX7_back_100 : decode cX7_back 100 = .ok (.invokestatic 164, 3) := by decide +kernel
theorem dX7_back_103 : decode cX7_back 103 = .ok (.ireturn, 1) := by decide +kernel
theorem dX7_back_104 : decode cX7_back 104 = .ok (.aload_n 0, 1) := by decide +kernel
theorem dX7_back_105 : decode cX7_back 105 = .ok (.getfield 33, 3) := by decide +kernel
theorem dX7_back_108 : decode cX7_back 108 = .ok (.iload_n 3, 1) := by decide +kernel
theorem dX7_back_109 : decode cX7_back 109 = .ok (.iload 4, 2) := by decide +kernel
theorem dX7_back_111 : decode cX7_back 111 = .ok (.invokevirtual 188, 3) := by decide +kernel
theorem dX7_back_114 : decode cX7_back 114 = .ok (.ireturn, 1) := by decide +kernel
theorem dX7_back_115 : decode cX7_back 115 = .ok (.iconst (-1), 1) := by decide +kernel
theorem dX7_back_116 : decode cX7_back 116 = .ok (.ireturn, 1) := by decide +kernel
theorem dX7_rate_0 : decode cX7_rate 0 = .ok (.iload_n 1, 1) := by decide +kernel
theorem dX7_rate_1 : decode cX7_rate 1 = .ok (.iconst 1, 1) := by decide +kernel
theorem dX7_rate_2 : decode cX7_rate 2 = .ok (.bipush 9, 2) := by decide +kernel
theorem dX7_rate_4 : decode cX7_rate 4 = .ok (.invokestatic 73, 3) := by decide +kernel
theorem dX7_rate_7 : decode cX7_rate 7 = .ok (.ifCond .ne 5, 3) := by decide +kernel
theorem dX7_rate_10 : decode cX7_rate 10 = .ok (.iconst (-1), 1) := by decide +kernel
theorem dX7_rate_11 : decode cX7_rate 11 = .ok (.ireturn, 1) := by decide +kernel
theorem dX7_rate_12 : decode cX7_rate 12 = .ok (.aload_n 0, 1) := by decide +kernel
theorem dX7_rate_13 : decode cX7_rate 13 = .ok (.getfield 66, 3) := by decide +kernel
theorem dX7_rate_16 : decode cX7_rate 16 = .ok (.istore_n 2, 1) := by decide +kernel
theorem dX7_rate_17 : decode cX7_rate 17 = .ok (.aload_n 0, 1) := by decide +kernel
theorem dX7_rate_18 : decode cX7_rate 18 = .ok (.iload_n 1, 1) := by decide +kernel
theorem dX7_rate_19 : decode cX7_rate 19 = .ok (.putfield 66, 3) := by decide +kernel
theorem dX7_rate_22 : decode cX7_rate 22 = .ok (.iload_n 2, 1) := by decide +kernel
theorem dX7_rate_23 : decode cX7_rate 23 = .ok (.ireturn, 1) := by decide +kernel
theorem dX7_ill_0 : decode cX7_ill 0 = .ok (.iload_n 1, 1) := by decide +kernel
theorem dX7_ill_1 : decode cX7_ill 1 = .ok (.invokestatic 115, 3) := by decide +kernel
theorem dX7_ill_4 : decode cX7_ill 4 = .ok (.ifCond .ne 5, 3) := by decide +kernel
theorem dX7_ill_7 : decode cX7_ill 7 = .ok (.iconst (-1), 1) := by decide +kernel
theorem dX7_ill_8 : decode cX7_ill 8 = .ok (.ireturn, 1) := by decide +kernel
theorem dX7_ill_9 : decode cX7_ill 9 = .ok (.aload_n 0, 1) := by decide +kernel
theorem dX7_ill_10 : decode cX7_ill 10 = .ok (.getfield 58, 3) := by decide +kernel
theorem dX7_ill_13 : decode cX7_ill 13 = .ok (.iload_n 1, 1) := by decide +kernel
theorem dX7_ill_14 : decode cX7_ill 14 = .ok (.baload, 1) := by decide +kernel
theorem dX7_ill_15 : decode cX7_ill 15 = .ok (.invokestatic 164, 3) := by decide +kernel
theorem dX7_ill_18 : decode cX7_ill 18 = .ok (.istore_n 3, 1) := by decide +kernel
theorem dX7_ill_19 : decode cX7_ill 19 = .ok (.aload_n 0, 1) := by decide +kernel
theorem dX7_ill_20 : decode cX7_ill 20 = .ok (.getfield 58, 3) := by decide +kernel
theorem dX7_ill_23 : decode cX7_ill 23 = .ok (.iload_n 1, 1) := by decide +kernel
theorem dX7_ill_24 : decode cX7_ill 24 = .ok (.iload_n 2, 1) := by decide +kernel
theorem dX7_ill_25 : decode cX7_ill 25 = .ok (.bastore, 1) := by decide +kernel
theorem dX7_ill_26 : decode cX7_ill 26 = .ok (.iload_n 3, 1) := by decide +kernel
theorem dX7_ill_27 : decode cX7_ill 27 = .ok (.ireturn, 1) := by decide +kernel
theorem dX7_fees_0 : decode cX7_fees 0 = .ok (.iload_n 1, 1) := by decide +kernel
theorem dX7_fees_1 : decode cX7_fees 1 = .ok (.invokestatic 115, 3) := by decide +kernel
theorem dX7_fees_4 : decode cX7_fees 4 = .ok (.ifCond .ne 5, 3) := by decide +kernel
theorem dX7_fees_7 : decode cX7_fees 7 = .ok (.iconst (-1), 1) := by decide +kernel
theorem dX7_fees_8 : decode cX7_fees 8 = .ok (.ireturn, 1) := by decide +kernel
theorem dX7_fees_9 : decode cX7_fees 9 = .ok (.iload_n 2, 1) := by decide +kernel
theorem dX7_fees_10 : decode cX7_fees 10 = .ok (.lookupswitch 44 #[(0, 26), (1, 35)], 26) := by decide +kernel
theorem dX7_fees_36 : decode cX7_fees 36 = .ok (.aload_n 0, 1) := by decide +kernel
theorem dX7_fees_37 : decode cX7_fees 37 = .ok (.getfield 47, 3) := by decide +kernel
theorem dX7_fees_40 : decode cX7_fees 40 = .ok (.iload_n 1, 1) := by decide +kernel
theorem dX7_fees_41 : decode cX7_fees 41 = .ok (.invokevirtual 204, 3) := by decide +kernel
theorem dX7_fees_44 : decode cX7_fees 44 = .ok (.ireturn, 1) := by decide +kernel
theorem dX7_fees_45 : decode cX7_fees 45 = .ok (.aload_n 0, 1) := by decide +kernel
theorem dX7_fees_46 : decode cX7_fees 46 = .ok (.getfield 47, 3) := by decide +kernel
theorem dX7_fees_49 : decode cX7_fees 49 = .ok (.iload_n 1, 1) := by decide +kernel
theorem dX7_fees_50 : decode cX7_fees 50 = .ok (.invokevirtual 207, 3) := by decide +kernel
theorem dX7_fees_53 : decode cX7_fees 53 = .ok (.ireturn, 1) := by decide +kernel
theorem dX7_fees_54 : decode cX7_fees 54 = .ok (.iconst (-1), 1) := by decide +kernel
theorem dX7_fees_55 : decode cX7_fees 55 = .ok (.ireturn, 1) := by decide +kernel
theorem dX7_round_0 : decode cX7_round 0 = .ok (.iload_n 1, 1) := by decide +kernel
theorem dX7_round_1 : decode cX7_round 1 = .ok (.invokestatic 115, 3) := by decide +kernel
theorem dX7_round_4 : decode cX7_round 4 = .ok (.ifCond .eq 24, 3) := by decide +kernel
theorem dX7_round_7 : decode cX7_round 7 = .ok (.iload_n 2, 1) := by decide +kernel
theorem dX7_round_8 : decode cX7_round 8 = .ok (.iconst 1, 1) := by decide +kernel
theorem dX7_round_9 : decode cX7_round 9 = .ok (.bipush 6, 2) := by decide +kernel
theorem dX7_round_11 : decode cX7_round 11 = .ok (.invokestatic 73, 3) := by decide +kernel
theorem dX7_round_14 : decode cX7_round 14 = .ok (.ifCond .eq 14, 3) := by decide +kernel
theorem dX7_round_17 : decode cX7_round 17 = .ok (.iload_n 3, 1) := by decide +kernel
theorem dX7_round_18 : decode cX7_round 18 = .ok (.iconst 0, 1) := by decide +kernel
theorem dX7_round_19 : decode cX7_round 19 = .ok (.sipush 800, 3) := by decide +kernel
theorem dX7_round_22 : decode cX7_round 22 = .ok (.invokestatic 73, 3) := by decide +kernel
theorem dX7_round_25 : decode cX7_round 25 = .ok (.ifCond .ne 5, 3) := by decide +kernel
theorem dX7_round_28 : decode cX7_round 28 = .ok (.iconst (-1), 1) := by decide +kernel
theorem dX7_round_29 : decode cX7_round 29 = .ok (.ireturn, 1) := by decide +kernel
theorem dX7_round_30 : decode cX7_round 30 = .ok (.iconst 0, 1) := by decide +kernel
theorem dX7_round_31 : decode cX7_round 31 = .ok (.istore 4, 2) := by decide +kernel
theorem dX7_round_33 : decode cX7_round 33 = .ok (.iload 4, 2) := by decide +kernel
theorem dX7_round_35 : decode cX7_round 35 = .ok (.aload_n 0, 1) := by decide +kernel
theorem dX7_round_36 : decode cX7_round 36 = .ok (.getfield 26, 3) := by decide +kernel
theorem dX7_round_39 : decode cX7_round 39 = .ok (.getfield 174, 3) := by decide +kernel
theorem dX7_round_42 : decode cX7_round 42 = .ok (.if_icmp .ge 27, 3) := by decide +kernel
theorem dX7_round_45 : decode cX7_round 45 = .ok (.aload_n 0, 1) := by decide +kernel
theorem dX7_round_46 : decode cX7_round 46 = .ok (.getfield 26, 3) := by decide +kernel
theorem dX7_round_49 : decode cX7_round 49 = .ok (.getfield 210, 3) := by decide +kernel
theorem dX7_round_52 : decode cX7_round 52 = .ok (.iload 4, 2) := by decide +kernel
theorem dX7_round_54 : decode cX7_round 54 = .ok (.aload_n 0, 1) := by decide +kernel
theorem dX7_round_55 : decode cX7_round 55 = .ok (.iload 4, 2) := by decide +kernel
theorem dX7_round_57 : decode cX7_round 57 = .ok (.iload_n 1, 1) := by decide +kernel
theorem dX7_round_58 : decode cX7_round 58 = .ok (.iload_n 3, 1) := by decide +kernel
theorem dX7_round_59 : decode cX7_round 59 = .ok (.invokevirtual 213, 3) := by decide +kernel
theorem dX7_round_62 : decode cX7_round 62 = .ok (.iastore, 1) := by decide +kernel
theorem dX7_round_63 : decode cX7_round 63 = .ok (.iinc 4 1, 3) := by decide +kernel
theorem dX7_round_66 : decode cX7_round 66 = .ok (.goto (-33), 3) := by decide +kernel
theorem dX7_round_69 : decode cX7_round 69 = .ok (.aload_n 0, 1) := by decide +kernel
theorem dX7_round_70 : decode cX7_round 70 = .ok (.getfield 54, 3) := by decide +kernel
theorem dX7_round_73 : decode cX7_round 73 = .ok (.invokevirtual 217, 3) := by decide +kernel
theorem dX7_round_76 : decode cX7_round 76 = .ok (.iconst 0, 1) := by decide +kernel
theorem dX7_round_77 : decode cX7_round 77 = .ok (.istore 4, 2) := by decide +kernel
theorem dX7_round_79 : decode cX7_round 79 = .ok (.iload 4, 2) := by decide +kernel
theorem dX7_round_81 : decode cX7_round 81 = .ok (.aload_n 0, 1) := by decide +kernel
theorem dX7_round_82 : decode cX7_round 82 = .ok (.getfield 26, 3) := by decide +kernel
theorem dX7_round_85 : decode cX7_round 85 = .ok (.getfield 174, 3) := by decide +kernel
theorem dX7_round_88 : decode cX7_round 88 = .ok (.if_icmp .ge 66, 3) := by decide +kernel
theorem dX7_round_91 : decode cX7_round 91 = .ok (.aload_n 0, 1) := by decide +kernel
theorem dX7_round_92 : decode cX7_round 92 = .ok (.getfield 26, 3) := by decide +kernel
theorem dX7_round_95 : decode cX7_round 95 = .ok (.getfield 210, 3) := by decide +kernel
theorem dX7_round_98 : decode cX7_round 98 = .ok (.iload 4, 2) := by decide +kernel
theorem dX7_round_100 : decode cX7_round 100 = .ok (.iaload, 1) := by decide +kernel
theorem dX7_round_101 : decode cX7_round 101 = .ok (.bipush (-9), 2) := by decide +kernel
theorem dX7_round_103 : decode cX7_round 103 = .ok (.if_icmp .eq 45, 3) := by decide +kernel
theorem dX7_round_106 : decode cX7_round 106 = .ok (.aload_n 0, 1) := by decide +kernel
theorem dX7_round_107 : decode cX7_round 107 = .ok (.getfield 26, 3) := by decide +kernel
theorem dX7_round_110 : decode cX7_round 110 = .ok (.iload 4, 2) := by decide +kernel
theorem dX7_round_112 : decode cX7_round 112 = .ok (.invokevirtual 220, 3) := by decide +kernel
theorem dX7_round_115 : decode cX7_round 115 = .ok (.iload_n 2, 1) := by decide +kernel
theorem dX7_round_116 : decode cX7_round 116 = .ok (.if_icmp .ge 32, 3) := by decide +kernel
theorem dX7_round_119 : decode cX7_round 119 = .ok (.aload_n 0, 1) := by decide +kernel
theorem dX7_round_120 : decode cX7_round 120 = .ok (.getfield 54, 3) := by decide +kernel
theorem dX7_round_123 : decode cX7_round 123 = .ok (.iload 4, 2) := by decide +kernel
theorem dX7_round_125 : decode cX7_round 125 = .ok (.aload_n 0, 1) := by decide +kernel
theorem dX7_round_126 : decode cX7_round 126 = .ok (.getfield 26, 3) := by decide +kernel
theorem dX7_round_129 : decode cX7_round 129 = .ok (.getfield 223, 3) := by decide +kernel
theorem dX7_round_132 : decode cX7_round 132 = .ok (.iload 4, 2) := by decide +kernel
theorem dX7_round_134 : decode cX7_round 134 = .ok (.iaload, 1) := by decide +kernel
theorem dX7_round_135 : decode cX7_round 135 = .ok (.aload_n 0, 1) := by decide +kernel
theorem dX7_round_136 : decode cX7_round 136 = .ok (.getfield 26, 3) := by decide +kernel
theorem dX7_round_139 : decode cX7_round 139 = .ok (.getfield 226, 3) := by decide +kernel
theorem dX7_round_142 : decode cX7_round 142 = .ok (.iload 4, 2) := by decide +kernel
theorem dX7_round_144 : decode cX7_round 144 = .ok (.iaload, 1) := by decide +kernel
theorem dX7_round_145 : decode cX7_round 145 = .ok (.invokevirtual 229, 3) := by decide +kernel
theorem dX7_round_148 : decode cX7_round 148 = .ok (.iinc 4 1, 3) := by decide +kernel
theorem dX7_round_151 : decode cX7_round 151 = .ok (.goto (-72), 3) := by decide +kernel
theorem dX7_round_154 : decode cX7_round 154 = .ok (.aload_n 0, 1) := by decide +kernel
theorem dX7_round_155 : decode cX7_round 155 = .ok (.getfield 54, 3) := by decide +kernel
theorem dX7_round_158 : decode cX7_round 158 = .ok (.invokevirtual 233, 3) := by decide +kernel
theorem dX7_round_161 : decode cX7_round 161 = .ok (.aload_n 0, 1) := by decide +kernel
theorem dX7_round_162 : decode cX7_round 162 = .ok (.getfield 54, 3) := by decide +kernel
theorem dX7_round_165 : decode cX7_round 165 = .ok (.getfield 236, 3) := by decide +kernel
theorem dX7_round_168 : decode cX7_round 168 = .ok (.ireturn, 1) := by decide +kernel
theorem dX7_at_0 : decode cX7_at 0 = .ok (.iload_n 1, 1) := by decide +kernel
theorem dX7_at_1 : decode cX7_at 1 = .ok (.iconst 0, 1) := by decide +kernel
theorem dX7_at_2 : decode cX7_at 2 = .ok (.bipush 6, 2) := by decide +kernel
theorem dX7_at_4 : decode cX7_at 4 = .ok (.invokestatic 73, 3) := by decide +kernel
theorem dX7_at_7 : decode cX7_at 7 = .ok (.ifCond .ne 5, 3) := by decide +kernel
theorem dX7_at_10 : decode cX7_at 10 = .ok (.iconst (-1), 1) := by decide +kernel
theorem dX7_at_11 : decode cX7_at 11 = .ok (.ireturn, 1) := by decide +kernel
theorem dX7_at_12 : decode cX7_at 12 = .ok (.iload_n 1, 1) := by decide +kernel
theorem dX7_at_13 : decode cX7_at 13 = .ok (.bipush 6, 2) := by decide +kernel
theorem dX7_at_15 : decode cX7_at 15 = .ok (.if_icmp .ne 13, 3) := by decide +kernel
theorem dX7_at_18 : decode cX7_at 18 = .ok (.aload_n 0, 1) := by decide +kernel
theorem dX7_at_19 : decode cX7_at 19 = .ok (.getfield 54, 3) := by decide +kernel
theorem dX7_at_22 : decode cX7_at 22 = .ok (.getfield 237, 3) := by decide +kernel
theorem dX7_at_25 : decode cX7_at 25 = .ok (.goto 11, 3) := by decide +kernel
theorem dX7_at_28 : decode cX7_at 28 = .ok (.aload_n 0, 1) := by decide +kernel
theorem dX7_at_29 : decode cX7_at 29 = .ok (.getfield 54, 3) := by decide +kernel
theorem dX7_at_32 : decode cX7_at 32 = .ok (.iload_n 1, 1) := by decide +kernel
theorem dX7_at_33 : decode cX7_at 33 = .ok (.invokevirtual 240, 3) := by decide +kernel
theorem dX7_at_36 : decode cX7_at 36 = .ok (.ireturn, 1) := by decide +kernel
theorem dX7_count_0 : decode cX7_count 0 = .ok (.iload_n 1, 1) := by decide +kernel
theorem dX7_count_1 : decode cX7_count 1 = .ok (.tableswitch 96 0 6 #[43, 51, 56, 64, 72, 80, 88], 43) := by decide +kernel
theorem dX7_count_44 : decode cX7_count 44 = .ok (.aload_n 0, 1) := by decide +kernel
theorem dX7_count_45 : decode cX7_count 45 = .ok (.getfield 26, 3) := by decide +kernel
theorem dX7_count_48 : decode cX7_count 48 = .ok (.getfield 174, 3) := by decide +kernel
theorem dX7_count_51 : decode cX7_count 51 = .ok (.ireturn, 1) := by decide +kernel
theorem dX7_count_52 : decode cX7_count 52 = .ok (.aload_n 0, 1) := by decide +kernel
theorem dX7_count_53 : decode cX7_count 53 = .ok (.getfield 62, 3) := by decide +kernel
theorem dX7_count_56 : decode cX7_count 56 = .ok (.ireturn, 1) := by decide +kernel
theorem dX7_count_57 : decode cX7_count 57 = .ok (.aload_n 0, 1) := by decide +kernel
theorem dX7_count_58 : decode cX7_count 58 = .ok (.getfield 10, 3) := by decide +kernel
theorem dX7_count_61 : decode cX7_count 61 = .ok (.getfield 85, 3) := by decide +kernel
theorem dX7_count_64 : decode cX7_count 64 = .ok (.ireturn, 1) := by decide +kernel
theorem dX7_count_65 : decode cX7_count 65 = .ok (.aload_n 0, 1) := by decide +kernel
theorem dX7_count_66 : decode cX7_count 66 = .ok (.getfield 19, 3) := by decide +kernel
theorem dX7_count_69 : decode cX7_count 69 = .ok (.getfield 243, 3) := by decide +kernel
theorem dX7_count_72 : decode cX7_count 72 = .ok (.ireturn, 1) := by decide +kernel
theorem dX7_count_73 : decode cX7_count 73 = .ok (.aload_n 0, 1) := by decide +kernel
theorem dX7_count_74 : decode cX7_count 74 = .ok (.getfield 33, 3) := by decide +kernel
theorem dX7_count_77 : decode cX7_count 77 = .ok (.getfield 244, 3) := by decide +kernel
theorem dX7_count_80 : decode cX7_count 80 = .ok (.ireturn, 1) := by decide +kernel
theorem dX7_count_81 : decode cX7_count 81 = .ok (.aload_n 0, 1) := by decide +kernel
theorem dX7_count_82 : decode cX7_count 82 = .ok (.getfield 40, 3) := by decide +kernel
theorem dX7_count_85 : decode cX7_count 85 = .ok (.getfield 245, 3) := by decide +kernel
theorem dX7_count_88 : decode cX7_count 88 = .ok (.ireturn, 1) := by decide +kernel
theorem dX7_count_89 : decode cX7_count 89 = .ok (.aload_n 0, 1) := by decide +kernel
theorem dX7_count_90 : decode cX7_count 90 = .ok (.getfield 47, 3) := by decide +kernel
theorem dX7_count_93 : decode cX7_count 93 = .ok (.getfield 246, 3) := by decide +kernel
theorem dX7_count_96 : decode cX7_count 96 = .ok (.ireturn, 1) := by decide +kernel
theorem dX7_count_97 : decode cX7_count 97 = .ok (.iconst (-1), 1) := by decide +kernel
theorem dX7_count_98 : decode cX7_count 98 = .ok (.ireturn, 1) := by decide +kernel
theorem dX7_trace_0 : decode cX7_trace 0 = .ok (.aload_n 0, 1) := by decide +kernel
theorem dX7_trace_1 : decode cX7_trace 1 = .ok (.getfield 69, 3) := by decide +kernel
theorem dX7_trace_4 : decode cX7_trace 4 = .ok (.lreturn, 1) := by decide +kernel
theorem dX7_within_0 : decode cX7_within 0 = .ok (.iload_n 0, 1) := by decide +kernel
theorem dX7_within_1 : decode cX7_within 1 = .ok (.iload_n 1, 1) := by decide +kernel
theorem dX7_within_2 : decode cX7_within 2 = .ok (.if_icmp .lt 12, 3) := by decide +kernel
theorem dX7_within_5 : decode cX7_within 5 = .ok (.iload_n 0, 1) := by decide +kernel
theorem dX7_within_6 : decode cX7_within 6 = .ok (.iload_n 2, 1) := by decide +kernel
theorem dX7_within_7 : decode cX7_within 7 = .ok (.if_icmp .gt 7, 3) := by decide +kernel
theorem dX7_within_10 : decode cX7_within 10 = .ok (.iconst 1, 1) := by decide +kernel
theorem dX7_within_11 : decode cX7_within 11 = .ok (.goto 4, 3) := by decide +kernel
theorem dX7_within_14 : decode cX7_within 14 = .ok (.iconst 0, 1) := by decide +kernel
theorem dX7_within_15 : decode cX7_within 15 = .ok (.ireturn, 1) := by decide +kernel
theorem dX7_asNumber_0 : decode cX7_asNumber 0 = .ok (.iload_n 0, 1) := by decide +kernel
theorem dX7_asNumber_1 : decode cX7_asNumber 1 = .ok (.ifCond .eq 7, 3) := by decide +kernel
theorem dX7_asNumber_4 : decode cX7_asNumber 4 = .ok (.iconst 1, 1) := by decide +kernel
theorem dX7_asNumber_5 : decode cX7_asNumber 5 = .ok (.goto 4, 3) := by decide +kernel
theorem dX7_asNumber_8 : decode cX7_asNumber 8 = .ok (.iconst 0, 1) := by decide +kernel
theorem dX7_asNumber_9 : decode cX7_asNumber 9 = .ok (.ireturn, 1) := by decide +kernel
theorem dX7_isHand_0 : decode cX7_isHand 0 = .ok (.iload_n 0, 1) := by decide +kernel
theorem dX7_isHand_1 : decode cX7_isHand 1 = .ok (.iconst 0, 1) := by decide +kernel
theorem dX7_isHand_2 : decode cX7_isHand 2 = .ok (.iconst 3, 1) := by decide +kernel
theorem dX7_isHand_3 : decode cX7_isHand 3 = .ok (.invokestatic 73, 3) := by decide +kernel
theorem dX7_isHand_6 : decode cX7_isHand 6 = .ok (.ireturn, 1) := by decide +kernel
theorem dX7_isPlace_0 : decode cX7_isPlace 0 = .ok (.iload_n 0, 1) := by decide +kernel
theorem dX7_isPlace_1 : decode cX7_isPlace 1 = .ok (.iconst 0, 1) := by decide +kernel
theorem dX7_isPlace_2 : decode cX7_isPlace 2 = .ok (.bipush 20, 2) := by decide +kernel
theorem dX7_isPlace_4 : decode cX7_isPlace 4 = .ok (.invokestatic 73, 3) := by decide +kernel
theorem dX7_isPlace_7 : decode cX7_isPlace 7 = .ok (.ifCond .eq 17, 3) := by decide +kernel
theorem dX7_isPlace_10 : decode cX7_isPlace 10 = .ok (.iload_n 1, 1) := by decide +kernel
theorem dX7_isPlace_11 : decode cX7_isPlace 11 = .ok (.iconst 0, 1) := by decide +kernel
theorem dX7_isPlace_12 : decode cX7_isPlace 12 = .ok (.bipush 20, 2) := by decide +kernel
theorem dX7_isPlace_14 : decode cX7_isPlace 14 = .ok (.invokestatic 73, 3) := by decide +kernel
theorem dX7_isPlace_17 : decode cX7_isPlace 17 = .ok (.ifCond .eq 7, 3) := by decide +kernel
theorem dX7_isPlace_20 : decode cX7_isPlace 20 = .ok (.iconst 1, 1) := by decide +kernel
theorem dX7_isPlace_21 : decode cX7_isPlace 21 = .ok (.goto 4, 3) := by decide +kernel
theorem dX7_isPlace_24 : decode cX7_isPlace 24 = .ok (.iconst 0, 1) := by decide +kernel
theorem dX7_isPlace_25 : decode cX7_isPlace 25 = .ok (.ireturn, 1) := by decide +kernel
theorem dX7_isBody_0 : decode cX7_isBody 0 = .ok (.iload_n 0, 1) := by decide +kernel
theorem dX7_isBody_1 : decode cX7_isBody 1 = .ok (.iconst 0, 1) := by decide +kernel
theorem dX7_isBody_2 : decode cX7_isBody 2 = .ok (.iconst 2, 1) := by decide +kernel
theorem dX7_isBody_3 : decode cX7_isBody 3 = .ok (.invokestatic 73, 3) := by decide +kernel
theorem dX7_isBody_6 : decode cX7_isBody 6 = .ok (.ifCond .eq 47, 3) := by decide +kernel
theorem dX7_isBody_9 : decode cX7_isBody 9 = .ok (.iload_n 1, 1) := by decide +kernel
theorem dX7_isBody_10 : decode cX7_isBody 10 = .ok (.iconst 0, 1) := by decide +kernel
theorem dX7_isBody_11 : decode cX7_isBody 11 = .ok (.iconst 2, 1) := by decide +kernel
theorem dX7_isBody_12 : decode cX7_isBody 12 = .ok (.invokestatic 73, 3) := by decide +kernel
theorem dX7_isBody_15 : decode cX7_isBody 15 = .ok (.ifCond .eq 38, 3) := by decide +kernel
theorem dX7_isBody_18 : decode cX7_isBody 18 = .ok (.iload_n 2, 1) := by decide +kernel
theorem dX7_isBody_19 : decode cX7_isBody 19 = .ok (.iconst 1, 1) := by decide +kernel
theorem dX7_isBody_20 : decode cX7_isBody 20 = .ok (.bipush 30, 2) := by decide +kernel
theorem dX7_isBody_22 : decode cX7_isBody 22 = .ok (.invokestatic 73, 3) := by decide +kernel
theorem dX7_isBody_25 : decode cX7_isBody 25 = .ok (.ifCond .eq 28, 3) := by decide +kernel
theorem dX7_isBody_28 : decode cX7_isBody 28 = .ok (.iload_n 3, 1) := by decide +kernel
theorem dX7_isBody_29 : decode cX7_isBody 29 = .ok (.bipush 10, 2) := by decide +kernel
theorem dX7_isBody_31 : decode cX7_isBody 31 = .ok (.bipush 40, 2) := by decide +kernel
theorem dX7_isBody_33 : decode cX7_isBody 33 = .ok (.invokestatic 73, 3) := by decide +kernel
theorem dX7_isBody_36 : decode cX7_isBody 36 = .ok (.ifCond .eq 17, 3) := by decide +kernel
theorem dX7_isBody_39 : decode cX7_isBody 39 = .ok (.iload 4, 2) := by decide +kernel
theorem dX7_isBody_41 : decode cX7_isBody 41 = .ok (.iconst 0, 1) := by decide +kernel
theorem dX7_isBody_42 : decode cX7_isBody 42 = .ok (.iconst 4, 1) := by decide +kernel
theorem dX7_isBody_43 : decode cX7_isBody 43 = .ok (.invokestatic 73, 3) := by decide +kernel
theorem dX7_isBody_46 : decode cX7_isBody 46 = .ok (.ifCond .eq 7, 3) := by decide +kernel
theorem dX7_isBody_49 : decode cX7_isBody 49 = .ok (.iconst 1, 1) := by decide +kernel
theorem dX7_isBody_50 : decode cX7_isBody 50 = .ok (.goto 4, 3) := by decide +kernel
theorem dX7_isBody_53 : decode cX7_isBody 53 = .ok (.iconst 0, 1) := by decide +kernel
theorem dX7_isBody_54 : decode cX7_isBody 54 = .ok (.ireturn, 1) := by decide +kernel
theorem dX7_straightPull_0 : decode cX7_straightPull 0 = .ok (.aload_n 0, 1) := by decide +kernel
theorem dX7_straightPull_1 : decode cX7_straightPull 1 = .ok (.dup, 1) := by decide +kernel
theorem dX7_straightPull_2 : decode cX7_straightPull 2 = .ok (.getfield 69, 3) := by decide +kernel
theorem dX7_straightPull_5 : decode cX7_straightPull 5 = .ok (.lconst 1, 1) := by decide +kernel
theorem dX7_straightPull_6 : decode cX7_straightPull 6 = .ok (.ladd, 1) := by decide +kernel
theorem dX7_straightPull_7 : decode cX7_straightPull 7 = .ok (.putfield 69, 3) := by decide +kernel
theorem dX7_straightPull_10 : decode cX7_straightPull 10 = .ok (.aload_n 0, 1) := by decide +kernel
theorem dX7_straightPull_11 : decode cX7_straightPull 11 = .ok (.getfield 26, 3) := by decide +kernel
theorem dX7_straightPull_14 : decode cX7_straightPull 14 = .ok (.iload_n 1, 1) := by decide +kernel
theorem dX7_straightPull_15 : decode cX7_straightPull 15 = .ok (.invokevirtual 247, 3) := by decide +kernel
theorem dX7_straightPull_18 : decode cX7_straightPull 18 = .ok (.ireturn, 1) := by decide +kernel
theorem dX7_bentPull_0 : decode cX7_bentPull 0 = .ok (.aload_n 0, 1) := by decide +kernel
theorem dX7_bentPull_1 : decode cX7_bentPull 1 = .ok (.dup, 1) := by decide +kernel
theorem dX7_bentPull_2 : decode cX7_bentPull 2 = .ok (.getfield 69, 3) := by decide +kernel
theorem dX7_bentPull_5 : decode cX7_bentPull 5 = .ok (.ldc2_w 250, 3) := by decide +kernel
theorem dX7_bentPull_8 : decode cX7_bentPull 8 = .ok (.ladd, 1) := by decide +kernel
theorem dX7_bentPull_9 : decode cX7_bentPull 9 = .ok (.putfield 69, 3) := by decide +kernel
theorem dX7_bentPull_12 : decode cX7_bentPull 12 = .ok (.iconst 0, 1) := by decide +kernel
theorem dX7_bentPull_13 : decode cX7_bentPull 13 = .ok (.aload_n 0, 1) := by decide +kernel
theorem dX7_bentPull_14 : decode cX7_bentPull 14 = .ok (.iload_n 1, 1) := by decide +kernel
theorem dX7_bentPull_15 : decode cX7_bentPull 15 = .ok (.invokevirtual 136, 3) := by decide +kernel
theorem dX7_bentPull_18 : decode cX7_bentPull 18 = .ok (.iconst 2, 1) := by decide +kernel
theorem dX7_bentPull_19 : decode cX7_bentPull 19 = .ok (.aload_n 0, 1) := by decide +kernel
theorem dX7_bentPull_20 : decode cX7_bentPull 20 = .ok (.getfield 26, 3) := by decide +kernel
theorem dX7_bentPull_23 : decode cX7_bentPull 23 = .ok (.getfield 252, 3) := by decide +kernel
theorem dX7_bentPull_26 : decode cX7_bentPull 26 = .ok (.iload_n 1, 1) := by decide +kernel
theorem dX7_bentPull_27 : decode cX7_bentPull 27 = .ok (.iaload, 1) := by decide +kernel
theorem dX7_bentPull_28 : decode cX7_bentPull 28 = .ok (.imul, 1) := by decide +kernel
theorem dX7_bentPull_29 : decode cX7_bentPull 29 = .ok (.isub, 1) := by decide +kernel
theorem dX7_bentPull_30 : decode cX7_bentPull 30 = .ok (.invokestatic 255, 3) := by decide +kernel
theorem dX7_bentPull_33 : decode cX7_bentPull 33 = .ok (.ireturn, 1) := by decide +kernel
theorem dX7_sharedPull_0 : decode cX7_sharedPull 0 = .ok (.aload_n 0, 1) := by decide +kernel
theorem dX7_sharedPull_1 : decode cX7_sharedPull 1 = .ok (.dup, 1) := by decide +kernel
theorem dX7_sharedPull_2 : decode cX7_sharedPull 2 = .ok (.getfield 69, 3) := by decide +kernel
theorem dX7_sharedPull_5 : decode cX7_sharedPull 5 = .ok (.ldc2_w 260, 3) := by decide +kernel
theorem dX7_sharedPull_8 : decode cX7_sharedPull 8 = .ok (.ladd, 1) := by decide +kernel
theorem dX7_sharedPull_9 : decode cX7_sharedPull 9 = .ok (.putfield 69, 3) := by decide +kernel
theorem dX7_sharedPull_12 : decode cX7_sharedPull 12 = .ok (.aload_n 0, 1) := by decide +kernel
theorem dX7_sharedPull_13 : decode cX7_sharedPull 13 = .ok (.iload_n 1, 1) := by decide +kernel
theorem dX7_sharedPull_14 : decode cX7_sharedPull 14 = .ok (.invokevirtual 140, 3) := by decide +kernel
theorem dX7_sharedPull_17 : decode cX7_sharedPull 17 = .ok (.iconst 2, 1) := by decide +kernel
theorem dX7_sharedPull_18 : decode cX7_sharedPull 18 = .ok (.idiv, 1) := by decide +kernel
theorem dX7_sharedPull_19 : decode cX7_sharedPull 19 = .ok (.ireturn, 1) := by decide +kernel
theorem dX7_sweptBy_0 : decode cX7_sweptBy 0 = .ok (.aload_n 0, 1) := by decide +kernel
theorem dX7_sweptBy_1 : decode cX7_sweptBy 1 = .ok (.getfield 47, 3) := by decide +kernel
theorem dX7_sweptBy_4 : decode cX7_sweptBy 4 = .ok (.iload_n 1, 1) := by decide +kernel
theorem dX7_sweptBy_5 : decode cX7_sweptBy 5 = .ok (.iload_n 2, 1) := by decide +kernel
theorem dX7_sweptBy_6 : decode cX7_sweptBy 6 = .ok (.invokevirtual 262, 3) := by decide +kernel
theorem dX7_sweptBy_9 : decode cX7_sweptBy 9 = .ok (.istore_n 3, 1) := by decide +kernel
theorem dX7_sweptBy_10 : decode cX7_sweptBy 10 = .ok (.iload_n 3, 1) := by decide +kernel
theorem dX7_sweptBy_11 : decode cX7_sweptBy 11 = .ok (.bipush (-9), 2) := by decide +kernel
theorem dX7_sweptBy_13 : decode cX7_sweptBy 13 = .ok (.if_icmp .ne 15, 3) := by decide +kernel
theorem dX7_sweptBy_16 : decode cX7_sweptBy 16 = .ok (.aload_n 0, 1) := by decide +kernel
theorem dX7_sweptBy_17 : decode cX7_sweptBy 17 = .ok (.getfield 26, 3) := by decide +kernel
theorem dX7_sweptBy_20 : decode cX7_sweptBy 20 = .ok (.getfield 181, 3) := by decide +kernel
theorem dX7_sweptBy_23 : decode cX7_sweptBy 23 = .ok (.iload_n 1, 1) := by decide +kernel
theorem dX7_sweptBy_24 : decode cX7_sweptBy 24 = .ok (.iaload, 1) := by decide +kernel
theorem dX7_sweptBy_25 : decode cX7_sweptBy 25 = .ok (.goto 12, 3) := by decide +kernel
theorem dX7_sweptBy_28 : decode cX7_sweptBy 28 = .ok (.aload_n 0, 1) := by decide +kernel
theorem dX7_sweptBy_29 : decode cX7_sweptBy 29 = .ok (.getfield 47, 3) := by decide +kernel
theorem dX7_sweptBy_32 : decode cX7_sweptBy 32 = .ok (.getfield 265, 3) := by decide +kernel
theorem dX7_sweptBy_35 : decode cX7_sweptBy 35 = .ok (.iload_n 3, 1) := by decide +kernel
theorem dX7_sweptBy_36 : decode cX7_sweptBy 36 = .ok (.iaload, 1) := by decide +kernel
theorem dX7_sweptBy_37 : decode cX7_sweptBy 37 = .ok (.ireturn, 1) := by decide +kernel
theorem dX7_sweeperBy_0 : decode cX7_sweeperBy 0 = .ok (.aload_n 0, 1) := by decide +kernel
theorem dX7_sweeperBy_1 : decode cX7_sweeperBy 1 = .ok (.getfield 47, 3) := by decide +kernel
theorem dX7_sweeperBy_4 : decode cX7_sweeperBy 4 = .ok (.iload_n 1, 1) := by decide +kernel
theorem dX7_sweeperBy_5 : decode cX7_sweeperBy 5 = .ok (.iload_n 2, 1) := by decide +kernel
theorem dX7_sweeperBy_6 : decode cX7_sweeperBy 6 = .ok (.invokevirtual 262, 3) := by decide +kernel
theorem dX7_sweeperBy_9 : decode cX7_sweeperBy 9 = .ok (.istore_n 3, 1) := by decide +kernel
theorem dX7_sweeperBy_10 : decode cX7_sweeperBy 10 = .ok (.iload_n 3, 1) := by decide +kernel
theorem dX7_sweeperBy_11 : decode cX7_sweeperBy 11 = .ok (.bipush (-9), 2) := by decide +kernel
theorem dX7_sweeperBy_13 : decode cX7_sweeperBy 13 = .ok (.if_icmp .ne 8, 3) := by decide +kernel
theorem dX7_sweeperBy_16 : decode cX7_sweeperBy 16 = .ok (.bipush (-9), 2) := by decide +kernel
theorem dX7_sweeperBy_18 : decode cX7_sweeperBy 18 = .ok (.goto 12, 3) := by decide +kernel
theorem dX7_sweeperBy_21 : decode cX7_sweeperBy 21 = .ok (.aload_n 0, 1) := by decide +kernel
theorem dX7_sweeperBy_22 : decode cX7_sweeperBy 22 = .ok (.getfield 47, 3) := by decide +kernel
theorem dX7_sweeperBy_25 : decode cX7_sweeperBy 25 = .ok (.getfield 266, 3) := by decide +kernel
theorem dX7_sweeperBy_28 : decode cX7_sweeperBy 28 = .ok (.iload_n 3, 1) := by decide +kernel
theorem dX7_sweeperBy_29 : decode cX7_sweeperBy 29 = .ok (.iaload, 1) := by decide +kernel
theorem dX7_sweeperBy_30 : decode cX7_sweeperBy 30 = .ok (.ireturn, 1) := by decide +kernel
theorem dX7_dueOf_0 : decode cX7_dueOf 0 = .ok (.aload_n 0, 1) := by decide +kernel
theorem dX7_dueOf_1 : decode cX7_dueOf 1 = .ok (.getfield 19, 3) := by decide +kernel
theorem dX7_dueOf_4 : decode cX7_dueOf 4 = .ok (.aload_n 0, 1) := by decide +kernel
theorem dX7_dueOf_5 : decode cX7_dueOf 5 = .ok (.getfield 26, 3) := by decide +kernel
theorem dX7_dueOf_8 : decode cX7_dueOf 8 = .ok (.getfield 146, 3) := by decide +kernel
theorem dX7_dueOf_11 : decode cX7_dueOf 11 = .ok (.iload_n 1, 1) := by decide +kernel
theorem dX7_dueOf_12 : decode cX7_dueOf 12 = .ok (.iaload, 1) := by decide +kernel
theorem dX7_dueOf_13 : decode cX7_dueOf 13 = .ok (.aload_n 0, 1) := by decide +kernel
theorem dX7_dueOf_14 : decode cX7_dueOf 14 = .ok (.iload_n 1, 1) := by decide +kernel
theorem dX7_dueOf_15 : decode cX7_dueOf 15 = .ok (.aload_n 0, 1) := by decide +kernel
theorem dX7_dueOf_16 : decode cX7_dueOf 16 = .ok (.getfield 62, 3) := by decide +kernel
theorem dX7_dueOf_19 : decode cX7_dueOf 19 = .ok (.invokevirtual 155, 3) := by decide +kernel
theorem dX7_dueOf_22 : decode cX7_dueOf 22 = .ok (.invokevirtual 267, 3) := by decide +kernel
theorem dX7_dueOf_25 : decode cX7_dueOf 25 = .ok (.ireturn, 1) := by decide +kernel
theorem dX7_wasBeyond_0 : decode cX7_wasBeyond 0 = .ok (.iload_n 2, 1) := by decide +kernel
theorem dX7_wasBeyond_1 : decode cX7_wasBeyond 1 = .ok (.aload_n 0, 1) := by decide +kernel
theorem dX7_wasBeyond_2 : decode cX7_wasBeyond 2 = .ok (.getfield 19, 3) := by decide +kernel
theorem dX7_wasBeyond_5 : decode cX7_wasBeyond 5 = .ok (.aload_n 0, 1) := by decide +kernel
theorem dX7_wasBeyond_6 : decode cX7_wasBeyond 6 = .ok (.getfield 26, 3) := by decide +kernel
theorem dX7_wasBeyond_9 : decode cX7_wasBeyond 9 = .ok (.getfield 146, 3) := by decide +kernel
theorem dX7_wasBeyond_12 : decode cX7_wasBeyond 12 = .ok (.iload_n 1, 1) := by decide +kernel
theorem dX7_wasBeyond_13 : decode cX7_wasBeyond 13 = .ok (.iaload, 1) := by decide +kernel
theorem dX7_wasBeyond_14 : decode cX7_wasBeyond 14 = .ok (.aload_n 0, 1) := by decide +kernel
theorem dX7_wasBeyond_15 : decode cX7_wasBeyond 15 = .ok (.iload_n 1, 1) := by decide +kernel
theorem dX7_wasBeyond_16 : decode cX7_wasBeyond 16 = .ok (.iload_n 2, 1) := by decide +kernel
theorem dX7_wasBeyond_17 : decode cX7_wasBeyond 17 = .ok (.invokevirtual 155, 3) := by decide +kernel
theorem dX7_wasBeyond_20 : decode cX7_wasBeyond 20 = .ok (.invokevirtual 267, 3) := by decide +kernel
theorem dX7_wasBeyond_23 : decode cX7_wasBeyond 23 = .ok (.if_icmp .le 7, 3) := by decide +kernel
theorem dX7_wasBeyond_26 : decode cX7_wasBeyond 26 = .ok (.iconst 1, 1) := by decide +kernel
theorem dX7_wasBeyond_27 : decode cX7_wasBeyond 27 = .ok (.goto 4, 3) := by decide +kernel
theorem dX7_wasBeyond_30 : decode cX7_wasBeyond 30 = .ok (.iconst 0, 1) := by decide +kernel
theorem dX7_wasBeyond_31 : decode cX7_wasBeyond 31 = .ok (.ireturn, 1) := by decide +kernel
theorem dX7_isForbidden_0 : decode cX7_isForbidden 0 = .ok (.aload_n 0, 1) := by decide +kernel
theorem dX7_isForbidden_1 : decode cX7_isForbidden 1 = .ok (.getfield 26, 3) := by decide +kernel
theorem dX7_isForbidden_4 : decode cX7_isForbidden 4 = .ok (.getfield 158, 3) := by decide +kernel
theorem dX7_isForbidden_7 : decode cX7_isForbidden 7 = .ok (.iload_n 1, 1) := by decide +kernel
theorem dX7_isForbidden_8 : decode cX7_isForbidden 8 = .ok (.iaload, 1) := by decide +kernel
theorem dX7_isForbidden_9 : decode cX7_isForbidden 9 = .ok (.iconst 3, 1) := by decide +kernel
theorem dX7_isForbidden_10 : decode cX7_isForbidden 10 = .ok (.if_icmp .ge 18, 3) := by decide +kernel
theorem dX7_isForbidden_13 : decode cX7_isForbidden 13 = .ok (.aload_n 0, 1) := by decide +kernel
theorem dX7_isForbidden_14 : decode cX7_isForbidden 14 = .ok (.getfield 33, 3) := by decide +kernel
theorem dX7_isForbidden_17 : decode cX7_isForbidden 17 = .ok (.iload_n 1, 1) := by decide +kernel
theorem dX7_isForbidden_18 : decode cX7_isForbidden 18 = .ok (.aload_n 0, 1) := by decide +kernel
theorem dX7_isForbidden_19 : decode cX7_isForbidden 19 = .ok (.getfield 62, 3) := by decide +kernel
theorem dX7_isForbidden_22 : decode cX7_isForbidden 22 = .ok (.invokevirtual 188, 3) := by decide +kernel
theorem dX7_isForbidden_25 : decode cX7_isForbidden 25 = .ok (.ifCond .ne 7, 3) := by decide +kernel
theorem dX7_isForbidden_28 : decode cX7_isForbidden 28 = .ok (.iconst 1, 1) := by decide +kernel
theorem dX7_isForbidden_29 : decode cX7_isForbidden 29 = .ok (.goto 4, 3) := by decide +kernel
theorem dX7_isForbidden_32 : decode cX7_isForbidden 32 = .ok (.iconst 0, 1) := by decide +kernel
theorem dX7_isForbidden_33 : decode cX7_isForbidden 33 = .ok (.ireturn, 1) := by decide +kernel
theorem dX7_doerOf_0 : decode cX7_doerOf 0 = .ok (.aload_n 0, 1) := by decide +kernel
theorem dX7_doerOf_1 : decode cX7_doerOf 1 = .ok (.getfield 26, 3) := by decide +kernel
theorem dX7_doerOf_4 : decode cX7_doerOf 4 = .ok (.getfield 152, 3) := by decide +kernel
theorem dX7_doerOf_7 : decode cX7_doerOf 7 = .ok (.iload_n 1, 1) := by decide +kernel
theorem dX7_doerOf_8 : decode cX7_doerOf 8 = .ok (.iaload, 1) := by decide +kernel
theorem dX7_doerOf_9 : decode cX7_doerOf 9 = .ok (.istore_n 2, 1) := by decide +kernel
theorem dX7_doerOf_10 : decode cX7_doerOf 10 = .ok (.aload_n 0, 1) := by decide +kernel
theorem dX7_doerOf_11 : decode cX7_doerOf 11 = .ok (.getfield 58, 3) := by decide +kernel
theorem dX7_doerOf_14 : decode cX7_doerOf 14 = .ok (.iload_n 2, 1) := by decide +kernel
theorem dX7_doerOf_15 : decode cX7_doerOf 15 = .ok (.baload, 1) := by decide +kernel
theorem dX7_doerOf_16 : decode cX7_doerOf 16 = .ok (.ifCond .ne 5, 3) := by decide +kernel
theorem dX7_doerOf_19 : decode cX7_doerOf 19 = .ok (.iload_n 2, 1) := by decide +kernel
theorem dX7_doerOf_20 : decode cX7_doerOf 20 = .ok (.ireturn, 1) := by decide +kernel
theorem dX7_doerOf_21 : decode cX7_doerOf 21 = .ok (.aload_n 0, 1) := by decide +kernel
theorem dX7_doerOf_22 : decode cX7_doerOf 22 = .ok (.iload_n 1, 1) := by decide +kernel
theorem dX7_doerOf_23 : decode cX7_doerOf 23 = .ok (.invokevirtual 270, 3) := by decide +kernel
theorem dX7_doerOf_26 : decode cX7_doerOf 26 = .ok (.istore_n 3, 1) := by decide +kernel
theorem dX7_doerOf_27 : decode cX7_doerOf 27 = .ok (.iload_n 3, 1) := by decide +kernel
theorem dX7_doerOf_28 : decode cX7_doerOf 28 = .ok (.bipush (-9), 2) := by decide +kernel
theorem dX7_doerOf_30 : decode cX7_doerOf 30 = .ok (.if_icmp .ne 10, 3) := by decide +kernel
theorem dX7_doerOf_33 : decode cX7_doerOf 33 = .ok (.aload_n 0, 1) := by decide +kernel
theorem dX7_doerOf_34 : decode cX7_doerOf 34 = .ok (.invokevirtual 273, 3) := by decide +kernel
theorem dX7_doerOf_37 : decode cX7_doerOf 37 = .ok (.goto 4, 3) := by decide +kernel
theorem dX7_doerOf_40 : decode cX7_doerOf 40 = .ok (.iload_n 3, 1) := by decide +kernel
theorem dX7_doerOf_41 : decode cX7_doerOf 41 = .ok (.ireturn, 1) := by decide +kernel
theorem dX7_nearestHand_0 : decode cX7_nearestHand 0 = .ok (.bipush (-9), 2) := by decide +kernel
theorem dX7_nearestHand_2 : decode cX7_nearestHand 2 = .ok (.istore_n 2, 1) := by decide +kernel
theorem dX7_nearestHand_3 : decode cX7_nearestHand 3 = .ok (.ldc_w 276, 3) := by decide +kernel
theorem dX7_nearestHand_6 : decode cX7_nearestHand 6 = .ok (.istore_n 3, 1) := by decide +kernel
theorem dX7_nearestHand_7 : decode cX7_nearestHand 7 = .ok (.iconst 0, 1) := by decide +kernel
theorem dX7_nearestHand_8 : decode cX7_nearestHand 8 = .ok (.istore 4, 2) := by decide +kernel
theorem dX7_nearestHand_10 : decode cX7_nearestHand 10 = .ok (.iload 4, 2) := by decide +kernel
theorem dX7_nearestHand_12 : decode cX7_nearestHand 12 = .ok (.aload_n 0, 1) := by decide +kernel
theorem dX7_nearestHand_13 : decode cX7_nearestHand 13 = .ok (.getfield 26, 3) := by decide +kernel
theorem dX7_nearestHand_16 : decode cX7_nearestHand 16 = .ok (.getfield 174, 3) := by decide +kernel
theorem dX7_nearestHand_19 : decode cX7_nearestHand 19 = .ok (.if_icmp .ge 67, 3) := by decide +kernel
theorem dX7_nearestHand_22 : decode cX7_nearestHand 22 = .ok (.aload_n 0, 1) := by decide +kernel
theorem dX7_nearestHand_23 : decode cX7_nearestHand 23 = .ok (.getfield 26, 3) := by decide +kernel
theorem dX7_nearestHand_26 : decode cX7_nearestHand 26 = .ok (.getfield 152, 3) := by decide +kernel
theorem dX7_nearestHand_29 : decode cX7_nearestHand 29 = .ok (.iload 4, 2) := by decide +kernel
theorem dX7_nearestHand_31 : decode cX7_nearestHand 31 = .ok (.iaload, 1) := by decide +kernel
theorem dX7_nearestHand_32 : decode cX7_nearestHand 32 = .ok (.istore 5, 2) := by decide +kernel
theorem dX7_nearestHand_34 : decode cX7_nearestHand 34 = .ok (.aload_n 0, 1) := by decide +kernel
theorem dX7_nearestHand_35 : decode cX7_nearestHand 35 = .ok (.getfield 26, 3) := by decide +kernel
theorem dX7_nearestHand_38 : decode cX7_nearestHand 38 = .ok (.iload_n 1, 1) := by decide +kernel
theorem dX7_nearestHand_39 : decode cX7_nearestHand 39 = .ok (.iload 4, 2) := by decide +kernel
theorem dX7_nearestHand_41 : decode cX7_nearestHand 41 = .ok (.invokevirtual 277, 3) := by decide +kernel
theorem dX7_nearestHand_44 : decode cX7_nearestHand 44 = .ok (.istore 6, 2) := by decide +kernel
theorem dX7_nearestHand_46 : decode cX7_nearestHand 46 = .ok (.aload_n 0, 1) := by decide +kernel
theorem dX7_nearestHand_47 : decode cX7_nearestHand 47 = .ok (.getfield 58, 3) := by decide +kernel
theorem dX7_nearestHand_50 : decode cX7_nearestHand 50 = .ok (.iload 5, 2) := by decide +kernel
theorem dX7_nearestHand_52 : decode cX7_nearestHand 52 = .ok (.baload, 1) := by decide +kernel
theorem dX7_nearestHand_53 : decode cX7_nearestHand 53 = .ok (.ifCond .ne 27, 3) := by decide +kernel
theorem dX7_nearestHand_56 : decode cX7_nearestHand 56 = .ok (.iload 6, 2) := by decide +kernel
theorem dX7_nearestHand_58 : decode cX7_nearestHand 58 = .ok (.iload_n 3, 1) := by decide +kernel
theorem dX7_nearestHand_59 : decode cX7_nearestHand 59 = .ok (.if_icmp .lt 15, 3) := by decide +kernel
theorem dX7_nearestHand_62 : decode cX7_nearestHand 62 = .ok (.iload 6, 2) := by decide +kernel
theorem dX7_nearestHand_64 : decode cX7_nearestHand 64 = .ok (.iload_n 3, 1) := by decide +kernel
theorem dX7_nearestHand_65 : decode cX7_nearestHand 65 = .ok (.if_icmp .ne 15, 3) := by decide +kernel
theorem dX7_nearestHand_68 : decode cX7_nearestHand 68 = .ok (.iload 5, 2) := by decide +kernel
theorem dX7_nearestHand_70 : decode cX7_nearestHand 70 = .ok (.iload_n 2, 1) := by decide +kernel
theorem dX7_nearestHand_71 : decode cX7_nearestHand 71 = .ok (.if_icmp .ge 9, 3) := by decide +kernel
theorem dX7_nearestHand_74 : decode cX7_nearestHand 74 = .ok (.iload 5, 2) := by decide +kernel
theorem dX7_nearestHand_76 : decode cX7_nearestHand 76 = .ok (.istore_n 2, 1) := by decide +kernel
theorem dX7_nearestHand_77 : decode cX7_nearestHand 77 = .ok (.iload 6, 2) := by decide +kernel
theorem dX7_nearestHand_79 : decode cX7_nearestHand 79 = .ok (.istore_n 3, 1) := by decide +kernel
theorem dX7_nearestHand_80 : decode cX7_nearestHand 80 = .ok (.iinc 4 1, 3) := by decide +kernel
theorem dX7_nearestHand_83 : decode cX7_nearestHand 83 = .ok (.goto (-73), 3) := by decide +kernel
theorem dX7_nearestHand_86 : decode cX7_nearestHand 86 = .ok (.iload_n 2, 1) := by decide +kernel
theorem dX7_nearestHand_87 : decode cX7_nearestHand 87 = .ok (.ireturn, 1) := by decide +kernel
theorem dX7_leastHandNotIll_0 : decode cX7_leastHandNotIll 0 = .ok (.iconst 0, 1) := by decide +kernel
theorem dX7_leastHandNotIll_1 : decode cX7_leastHandNotIll 1 = .ok (.istore_n 1, 1) := by decide +kernel
theorem dX7_leastHandNotIll_2 : decode cX7_leastHandNotIll 2 = .ok (.iload_n 1, 1) := by decide +kernel
theorem dX7_leastHandNotIll_3 : decode cX7_leastHandNotIll 3 = .ok (.iconst 4, 1) := by decide +kernel
theorem dX7_leastHandNotIll_4 : decode cX7_leastHandNotIll 4 = .ok (.if_icmp .ge 20, 3) := by decide +kernel
theorem dX7_leastHandNotIll_7 : decode cX7_leastHandNotIll 7 = .ok (.aload_n 0, 1) := by decide +kernel
theorem dX7_leastHandNotIll_8 : decode cX7_leastHandNotIll 8 = .ok (.getfield 58, 3) := by decide +kernel
theorem dX7_leastHandNotIll_11 : decode cX7_leastHandNotIll 11 = .ok (.iload_n 1, 1) := by decide +kernel
theorem dX7_leastHandNotIll_12 : decode cX7_leastHandNotIll 12 = .ok (.baload, 1) := by decide +kernel
theorem dX7_leastHandNotIll_13 : decode cX7_leastHandNotIll 13 = .ok (.ifCond .ne 5, 3) := by decide +kernel
theorem dX7_leastHandNotIll_16 : decode cX7_leastHandNotIll 16 = .ok (.iload_n 1, 1) := by decide +kernel
theorem dX7_leastHandNotIll_17 : decode cX7_leastHandNotIll 17 = .ok (.ireturn, 1) := by decide +kernel
theorem dX7_leastHandNotIll_18 : decode cX7_leastHandNotIll 18 = .ok (.iinc 1 1, 3) := by decide +kernel
theorem dX7_leastHandNotIll_21 : decode cX7_leastHandNotIll 21 = .ok (.goto (-19), 3) := by decide +kernel
theorem dX7_leastHandNotIll_24 : decode cX7_leastHandNotIll 24 = .ok (.bipush (-9), 2) := by decide +kernel
theorem dX7_leastHandNotIll_26 : decode cX7_leastHandNotIll 26 = .ok (.ireturn, 1) := by decide +kernel
theorem dX7_waitingSince_0 : decode cX7_waitingSince 0 = .ok (.aload_n 0, 1) := by decide +kernel
theorem dX7_waitingSince_1 : decode cX7_waitingSince 1 = .ok (.iload_n 1, 1) := by decide +kernel
theorem dX7_waitingSince_2 : decode cX7_waitingSince 2 = .ok (.invokevirtual 168, 3) := by decide +kernel
theorem dX7_waitingSince_5 : decode cX7_waitingSince 5 = .ok (.iload_n 2, 1) := by decide +kernel
theorem dX7_waitingSince_6 : decode cX7_waitingSince 6 = .ok (.if_icmp .ne 11, 3) := by decide +kernel
theorem dX7_waitingSince_9 : decode cX7_waitingSince 9 = .ok (.aload_n 0, 1) := by decide +kernel
theorem dX7_waitingSince_10 : decode cX7_waitingSince 10 = .ok (.iload_n 1, 1) := by decide +kernel
theorem dX7_waitingSince_11 : decode cX7_waitingSince 11 = .ok (.invokevirtual 161, 3) := by decide +kernel
theorem dX7_waitingSince_14 : decode cX7_waitingSince 14 = .ok (.ifCond .eq 6, 3) := by decide +kernel
theorem dX7_waitingSince_17 : decode cX7_waitingSince 17 = .ok (.bipush (-9), 2) := by decide +kernel
theorem dX7_waitingSince_19 : decode cX7_waitingSince 19 = .ok (.ireturn, 1) := by decide +kernel
theorem dX7_waitingSince_20 : decode cX7_waitingSince 20 = .ok (.aload_n 0, 1) := by decide +kernel
theorem dX7_waitingSince_21 : decode cX7_waitingSince 21 = .ok (.iload_n 1, 1) := by decide +kernel
theorem dX7_waitingSince_22 : decode cX7_waitingSince 22 = .ok (.invokevirtual 171, 3) := by decide +kernel
theorem dX7_waitingSince_25 : decode cX7_waitingSince 25 = .ok (.istore 4, 2) := by decide +kernel
theorem dX7_waitingSince_27 : decode cX7_waitingSince 27 = .ok (.iload 4, 2) := by decide +kernel
theorem dX7_waitingSince_29 : decode cX7_waitingSince 29 = .ok (.iload_n 3, 1) := by decide +kernel
theorem dX7_waitingSince_30 : decode cX7_waitingSince 30 = .ok (.if_icmp .gt 8, 3) := by decide +kernel
theorem dX7_waitingSince_33 : decode cX7_waitingSince 33 = .ok (.iload 4, 2) := by decide +kernel
theorem dX7_waitingSince_35 : decode cX7_waitingSince 35 = .ok (.goto 5, 3) := by decide +kernel
theorem dX7_waitingSince_38 : decode cX7_waitingSince 38 = .ok (.bipush (-9), 2) := by decide +kernel
theorem dX7_waitingSince_40 : decode cX7_waitingSince 40 = .ok (.ireturn, 1) := by decide +kernel
end
section
theorem dX8_init_0 : decode cX8_init 0 = .ok (.aload_n 0, 1) := by decide +kernel
theorem dX8_init_1 : decode cX8_init 1 = .ok (.invokespecial 1, 3) := by decide +kernel
theorem dX8_init_4 : decode cX8_init 4 = .ok (.aload_n 0, 1) := by decide +kernel
theorem dX8_init_5 : decode cX8_init 5 = .ok (.bipush 60, 2) := by decide +kernel
theorem dX8_init_7 : decode cX8_init 7 = .ok (.newarray .int, 2) := by decide +kernel
theorem dX8_init_9 : decode cX8_init 9 = .ok (.putfield 7, 3) := by decide +kernel
theorem dX8_init_12 : decode cX8_init 12 = .ok (.aload_n 0, 1) := by decide +kernel
theorem dX8_init_13 : decode cX8_init 13 = .ok (.bipush 6, 2) := by decide +kernel
theorem dX8_init_15 : decode cX8_init 15 = .ok (.newarray .int, 2) := by decide +kernel
theorem dX8_init_17 : decode cX8_init 17 = .ok (.putfield 13, 3) := by decide +kernel
theorem dX8_init_20 : decode cX8_init 20 = .ok (.aload_n 0, 1) := by decide +kernel
theorem dX8_init_21 : decode cX8_init 21 = .ok (.bipush 7, 2) := by decide +kernel
theorem dX8_init_23 : decode cX8_init 23 = .ok (.newarray .int, 2) := by decide +kernel
theorem dX8_init_25 : decode cX8_init 25 = .ok (.putfield 16, 3) := by decide +kernel
theorem dX8_init_28 : decode cX8_init 28 = .ok (.aload_n 0, 1) := by decide +kernel
theorem dX8_init_29 : decode cX8_init 29 = .ok (.sipush 240, 3) := by decide +kernel
theorem dX8_init_32 : decode cX8_init 32 = .ok (.newarray .int, 2) := by decide +kernel
theorem dX8_init_34 : decode cX8_init 34 = .ok (.putfield 19, 3) := by decide +kernel
theorem dX8_init_37 : decode cX8_init 37 = .ok (.aload_n 0, 1) := by decide +kernel
theorem dX8_init_38 : decode cX8_init 38 = .ok (.sipush 240, 3) := by decide +kernel
theorem dX8_init_41 : decode cX8_init 41 = .ok (.newarray .int, 2) := by decide +kernel
theorem dX8_init_43 : decode cX8_init 43 = .ok (.putfield 22, 3) := by decide +kernel
theorem dX8_init_46 : decode cX8_init 46 = .ok (.aload_n 0, 1) := by decide +kernel
theorem dX8_init_47 : decode cX8_init 47 = .ok (.sipush 240, 3) := by decide +kernel
theorem dX8_init_50 : decode cX8_init 50 = .ok (.newarray .int, 2) := by decide +kernel
theorem dX8_init_52 : decode cX8_init 52 = .ok (.putfield 25, 3) := by decide +kernel
theorem dX8_init_55 : decode cX8_init 55 = .ok (.aload_n 0, 1) := by decide +kernel
theorem dX8_init_56 : decode cX8_init 56 = .ok (.sipush 132, 3) := by decide +kernel
theorem dX8_init_59 : decode cX8_init 59 = .ok (.newarray .int, 2) := by decide +kernel
theorem dX8_init_61 : decode cX8_init 61 = .ok (.putfield 28, 3) := by decide +kernel
theorem dX8_init_64 : decode cX8_init 64 = .ok (.aload_n 0, 1) := by decide +kernel
theorem dX8_init_65 : decode cX8_init 65 = .ok (.bipush 120, 2) := by decide +kernel
theorem dX8_init_67 : decode cX8_init 67 = .ok (.newarray .int, 2) := by decide +kernel
theorem dX8_init_69 : decode cX8_init 69 = .ok (.putfield 31, 3) := by decide +kernel
theorem dX8_init_72 : decode cX8_init 72 = .ok (.aload_n 0, 1) := by decide +kernel
theorem dX8_init_73 : decode cX8_init 73 = .ok (.bipush 20, 2) := by decide +kernel
theorem dX8_init_75 : decode cX8_init 75 = .ok (.newarray .int, 2) := by decide +kernel
theorem dX8_init_77 : decode cX8_init 77 = .ok (.putfield 34, 3) := by decide +kernel
theorem dX8_init_80 : decode cX8_init 80 = .ok (.aload_n 0, 1) := by decide +kernel
theorem dX8_init_81 : decode cX8_init 81 = .ok (.sipush 400, 3) := by decide +kernel
theorem dX8_init_84 : decode cX8_init 84 = .ok (.newarray .int, 2) := by decide +kernel
theorem dX8_init_86 : decode cX8_init 86 = .ok (.putfield 37, 3) := by decide +kernel
theorem dX8_init_89 : decode cX8_init 89 = .ok (.aload_n 0, 1) := by decide +kernel
theorem dX8_init_90 : decode cX8_init 90 = .ok (.iconst 1, 1) := by decide +kernel
theorem dX8_init_91 : decode cX8_init 91 = .ok (.putfield 40, 3) := by decide +kernel
theorem dX8_init_94 : decode cX8_init 94 = .ok (.aload_n 0, 1) := by decide +kernel
theorem dX8_init_95 : decode cX8_init 95 = .ok (.iconst 4, 1) := by decide +kernel
theorem dX8_init_96 : decode cX8_init 96 = .ok (.newarray .boolean, 2) := by decide +kernel
theorem dX8_init_98 : decode cX8_init 98 = .ok (.putfield 44, 3) := by decide +kernel
theorem dX8_init_101 : decode cX8_init 101 = .ok (.aload_n 0, 1) := by decide +kernel
theorem dX8_init_102 : decode cX8_init 102 = .ok (.bipush 6, 2) := by decide +kernel
theorem dX8_init_104 : decode cX8_init 104 = .ok (.newarray .int, 2) := by decide +kernel
theorem dX8_init_106 : decode cX8_init 106 = .ok (.putfield 48, 3) := by decide +kernel
theorem dX8_init_109 : decode cX8_init 109 = .ok (.aload_n 0, 1) := by decide +kernel
theorem dX8_init_110 : decode cX8_init 110 = .ok (.bipush 6, 2) := by decide +kernel
theorem dX8_init_112 : decode cX8_init 112 = .ok (.newarray .int, 2) := by decide +kernel
theorem dX8_init_114 : decode cX8_init 114 = .ok (.putfield 51, 3) := by decide +kernel
theorem dX8_init_117 : decode cX8_init 117 = .ok (.aload_n 0, 1) := by decide +kernel
theorem dX8_init_118 : decode cX8_init 118 = .ok (.bipush 6, 2) := by decide +kernel
theorem dX8_init_120 : decode cX8_init 120 = .ok (.newarray .int, 2) := by decide +kernel
theorem dX8_init_122 : decode cX8_init 122 = .ok (.putfield 54, 3) := by decide +kernel
theorem dX8_init_125 : decode cX8_init 125 = .ok (.aload_n 0, 1) := by decide +kernel
theorem dX8_init_126 : decode cX8_init 126 = .ok (.iconst 0, 1) := by decide +kernel
theorem dX8_init_127 : decode cX8_init 127 = .ok (.putfield 57, 3) := by decide +kernel
theorem dX8_init_130 : decode cX8_init 130 = .ok (.return_, 1) := by decide +kernel
theorem dX8_in_0 : decode cX8_in 0 = .ok (.iload_n 0, 1) := by decide +kernel
theorem dX8_in_1 : decode cX8_in 1 = .ok (.iload_n 1, 1) := by decide +kernel
theorem dX8_in_2 : decode cX8_in 2 = .ok (.if_icmp .lt 12, 3) := by decide +kernel
theorem dX8_in_5 : decode cX8_in 5 = .ok (.iload_n 0, 1) := by decide +kernel
theorem dX8_in_6 : decode cX8_in 6 = .ok (.iload_n 2, 1) := by decide +kernel
theorem dX8_in_7 : decode cX8_in 7 = .ok (.if_icmp .gt 7, 3) := by decide +kernel
theorem dX8_in_10 : decode cX8_in 10 = .ok (.iconst 1, 1) := by decide +kernel
theorem dX8_in_11 : decode cX8_in 11 = .ok (.goto 4, 3) := by decide +kernel
theorem dX8_in_14 : decode cX8_in 14 = .ok (.iconst 0, 1) := by decide +kernel
theorem dX8_in_15 : decode cX8_in 15 = .ok (.ireturn, 1) := by decide +kernel
theorem dX8_type_0 : decode cX8_type 0 = .ok (.aload_n 0, 1) := by decide +kernel
theorem dX8_type_1 : decode cX8_type 1 = .ok (.iconst 0, 1) := by decide +kernel
theorem dX8_type_2 : decode cX8_type 2 = .ok (.putfield 57, 3) := by decide +kernel
theorem dX8_type_5 : decode cX8_type 5 = .ok (.iload_n 3, 1) := by decide +kernel
theorem dX8_type_6 : decode cX8_type 6 = .ok (.iconst 1, 1) := by decide +kernel
theorem dX8_type_7 : decode cX8_type 7 = .ok (.bipush 8, 2) := by decide +kernel
theorem dX8_type_9 : decode cX8_type 9 = .ok (.invokestatic 60, 3) := by decide +kernel
theorem dX8_type_12 : decode cX8_type 12 = .ok (.ifCond .ne 5, 3) := by decide +kernel
theorem dX8_type_15 : decode cX8_type 15 = .ok (.iconst (-1), 1) := by decide +kernel
theorem dX8_type_16 : decode cX8_type 16 = .ok (.ireturn, 1) := by decide +kernel
theorem dX8_type_17 : decode cX8_type 17 = .ok (.aload_n 0, 1) := by decide +kernel
theorem dX8_type_18 : decode cX8_type 18 = .ok (.getfield 64, 3) := by decide +kernel
theorem dX8_type_21 : decode cX8_type 21 = .ok (.iload_n 3, 1) := by decide +kernel
theorem dX8_type_22 : decode cX8_type 22 = .ok (.iadd, 1) := by decide +kernel
theorem dX8_type_23 : decode cX8_type 23 = .ok (.bipush 60, 2) := by decide +kernel
theorem dX8_type_25 : decode cX8_type 25 = .ok (.if_icmp .le 6, 3) := by decide +kernel
theorem dX8_type_28 : decode cX8_type 28 = .ok (.bipush (-3), 2) := by decide +kernel
theorem dX8_type_30 : decode cX8_type 30 = .ok (.ireturn, 1) := by decide +kernel
theorem dX8_type_31 : decode cX8_type 31 = .ok (.iload_n 3, 1) := by decide +kernel
theorem dX8_type_32 : decode cX8_type 32 = .ok (.iconst 1, 1) := by decide +kernel
theorem dX8_type_33 : decode cX8_type 33 = .ok (.isub, 1) := by decide +kernel
theorem dX8_type_34 : decode cX8_type 34 = .ok (.istore 4, 2) := by decide +kernel
theorem dX8_type_36 : decode cX8_type 36 = .ok (.iload 4, 2) := by decide +kernel
theorem dX8_type_38 : decode cX8_type 38 = .ok (.ifCond .lt 40, 3) := by decide +kernel
theorem dX8_type_41 : decode cX8_type 41 = .ok (.aload_n 0, 1) := by decide +kernel
theorem dX8_type_42 : decode cX8_type 42 = .ok (.getfield 7, 3) := by decide +kernel
theorem dX8_type_45 : decode cX8_type 45 = .ok (.aload_n 0, 1) := by decide +kernel
theorem dX8_type_46 : decode cX8_type 46 = .ok (.getfield 64, 3) := by decide +kernel
theorem dX8_type_49 : decode cX8_type 49 = .ok (.lload_n 1, 1) := by decide +kernel
theorem dX8_type_50 : decode cX8_type 50 = .ok (.bipush 8, 2) := by decide +kernel
theorem dX8_type_52 : decode cX8_type 52 = .ok (.iload 4, 2) := by decide +kernel
theorem dX8_type_54 : decode cX8_type 54 = .ok (.imul, 1) := by decide +kernel
theorem dX8_type_55 : decode cX8_type 55 = .ok (.lshr, 1) := by decide +kernel
theorem dX8_type_56 : decode cX8_type 56 = .ok (.ldc2_w 67, 3) := by decide +kernel
theorem dX8_type_59 : decode cX8_type 59 = .ok (.land, 1) := by decide +kernel
theorem dX8_type_60 : decode cX8_type 60 = .ok (.l2i, 1) := by decide +kernel
theorem dX8_type_61 : decode cX8_type 61 = .ok (.iastore, 1) := by decide +kernel
theorem dX8_type_62 : decode cX8_type 62 = .ok (.aload_n 0, 1) := by decide +kernel
theorem dX8_type_63 : decode cX8_type 63 = .ok (.dup, 1) := by decide +kernel
theorem dX8_type_64 : decode cX8_type 64 = .ok (.getfield 64, 3) := by decide +kernel
theorem dX8_type_67 : decode cX8_type 67 = .ok (.iconst 1, 1) := by decide +kernel
theorem dX8_type_68 : decode cX8_type 68 = .ok (.iadd, 1) := by decide +kernel
theorem dX8_type_69 : decode cX8_type 69 = .ok (.putfield 64, 3) := by decide +kernel
theorem dX8_type_72 : decode cX8_type 72 = .ok (.iinc 4 (-1), 3) := by decide +kernel
theorem dX8_type_75 : decode cX8_type 75 = .ok (.goto (-39), 3) := by decide +kernel
theorem dX8_type_78 : decode cX8_type 78 = .ok (.aload_n 0, 1) := by decide +kernel
theorem dX8_type_79 : decode cX8_type 79 = .ok (.getfield 64, 3) := by decide +kernel
theorem dX8_type_82 : decode cX8_type 82 = .ok (.ireturn, 1) := by decide +kernel
theorem dX8_clear_0 : decode cX8_clear 0 = .ok (.aload_n 0, 1) := by decide +kernel
theorem dX8_clear_1 : decode cX8_clear 1 = .ok (.iconst 0, 1) := by decide +kernel
theorem dX8_clear_2 : decode cX8_clear 2 = .ok (.putfield 57, 3) := by decide +kernel
theorem dX8_clear_5 : decode cX8_clear 5 = .ok (.aload_n 0, 1) := by decide +kernel
theorem dX8_clear_6 : decode cX8_clear 6 = .ok (.getfield 64, 3) := by decide +kernel
theorem dX8_clear_9 : decode cX8_clear 9 = .ok (.istore_n 1, 1) := by decide +kernel
theorem dX8_clear_10 : decode cX8_clear 10 = .ok (.aload_n 0, 1) := by decide +kernel
theorem dX8_clear_11 : decode cX8_clear 11 = .ok (.iconst 0, 1) := by decide +kernel
theorem dX8_clear_12 : decode cX8_clear 12 = .ok (.putfield 64, 3) := by decide +kernel
theorem dX8_clear_15 : decode cX8_clear 15 = .ok (.iload_n 1, 1) := by decide +kernel
theorem dX8_clear_16 : decode cX8_clear 16 = .ok (.ireturn, 1) := by decide +kernel
theorem dX8_isDigit_0 : decode cX8_isDigit 0 = .ok (.iload_n 1, 1) := by decide +kernel
theorem dX8_isDigit_1 : decode cX8_isDigit 1 = .ok (.aload_n 0, 1) := by decide +kernel
theorem dX8_isDigit_2 : decode cX8_isDigit 2 = .ok (.getfield 64, 3) := by decide +kernel
theorem dX8_isDigit_5 : decode cX8_isDigit 5 = .ok (.if_icmp .ge 29, 3) := by decide +kernel
theorem dX8_isDigit_8 : decode cX8_isDigit 8 = .ok (.aload_n 0, 1) := by decide +kernel
theorem dX8_isDigit_9 : decode cX8_isDigit 9 = .ok (.getfield 7, 3) := by decide +kernel
theorem dX8_isDigit_12 : decode cX8_isDigit 12 = .ok (.iload_n 1, 1) := by decide +kernel
theorem dX8_isDigit_13 : decode cX8_isDigit 13 = .ok (.iaload, 1) := by decide +kernel
theorem dX8_isDigit_14 : decode cX8_isDigit 14 = .ok (.bipush 48, 2) := by decide +kernel
theorem dX8_isDigit_16 : decode cX8_isDigit 16 = .ok (.if_icmp .lt 18, 3) := by decide +kernel
theorem dX8_isDigit_19 : decode cX8_isDigit 19 = .ok (.aload_n 0, 1) := by decide +kernel
theorem dX8_isDigit_20 : decode cX8_isDigit 20 = .ok (.getfield 7, 3) := by decide +kernel
theorem dX8_isDigit_23 : decode cX8_isDigit 23 = .ok (.iload_n 1, 1) := by decide +kernel
theorem dX8_isDigit_24 : decode cX8_isDigit 24 = .ok (.iaload, 1) := by decide +kernel
theorem dX8_isDigit_25 : decode cX8_isDigit 25 = .ok (.bipush 57, 2) := by decide +kernel
theorem dX8_isDigit_27 : decode cX8_isDigit 27 = .ok (.if_icmp .gt 7, 3) := by decide +kernel
theorem dX8_isDigit_30 : decode cX8_isDigit 30 = .ok (.iconst 1, 1) := by decide +kernel
theorem dX8_isDigit_31 : decode cX8_isDigit 31 = .ok (.goto 4, 3) := by decide +kernel
theorem dX8_isDigit_34 : decode cX8_isDigit 34 = .ok (.iconst 0, 1) := by decide +kernel
theorem dX8_isDigit_35 : decode cX8_isDigit 35 = .ok (.ireturn, 1) := by decide +kernel
theorem dX8_reads_0 : decode cX8_reads 0 = .ok (.aload_n 0, 1) := by decide +kernel
theorem dX8_reads_1 : decode cX8_reads 1 = .ok (.getfield 16, 3) := by decide +kernel
theorem dX8_reads_4 : decode cX8_reads 4 = .ok (.aload_n 0, 1) := by decide +kernel
theorem dX8_reads_5 : decode cX8_reads 5 = .ok (.getfield 69, 3) := by decide +kernel
theorem dX8_reads_8 : decode cX8_reads 8 = .ok (.iaload, 1) := by decide +kernel
theorem dX8_reads_9 : decode cX8_reads 9 = .ok (.istore_n 1, 1) := by decide +kernel
theorem dX8_reads_10 : decode cX8_reads 10 = .ok (.iconst 0, 1) := by decide +kernel
theorem dX8_reads_11 : decode cX8_reads 11 = .ok (.istore_n 2, 1) := by decide +kernel
theorem dX8_reads_12 : decode cX8_reads 12 = .ok (.iconst 0, 1) := by decide +kernel
theorem dX8_reads_13 : decode cX8_reads 13 = .ok (.istore_n 3, 1) := by decide +kernel
theorem dX8_reads_14 : decode cX8_reads 14 = .ok (.iload_n 3, 1) := by decide +kernel
theorem dX8_reads_15 : decode cX8_reads 15 = .ok (.aload_n 0, 1) := by decide +kernel
theorem dX8_reads_16 : decode cX8_reads 16 = .ok (.getfield 64, 3) := by decide +kernel
theorem dX8_reads_19 : decode cX8_reads 19 = .ok (.if_icmp .ge 235, 3) := by decide +kernel
theorem dX8_reads_22 : decode cX8_reads 22 = .ok (.aload_n 0, 1) := by decide +kernel
theorem dX8_reads_23 : decode cX8_reads 23 = .ok (.getfield 7, 3) := by decide +kernel
theorem dX8_reads_26 : decode cX8_reads 26 = .ok (.iload_n 3, 1) := by decide +kernel
theorem dX8_reads_27 : decode cX8_reads 27 = .ok (.iaload, 1) := by decide +kernel
theorem dX8_reads_28 : decode cX8_reads 28 = .ok (.istore 4, 2) := by decide +kernel
theorem dX8_reads_30 : decode cX8_reads 30 = .ok (.iload 4, 2) := by decide +kernel
theorem dX8_reads_32 : decode cX8_reads 32 = .ok (.bipush 103, 2) := by decide +kernel
theorem dX8_reads_34 : decode cX8_reads 34 = .ok (.if_icmp .ne 7, 3) := by decide +kernel
theorem dX8_reads_37 : decode cX8_reads 37 = .ok (.iconst 0, 1) := by decide +kernel
theorem dX8_reads_38 : decode cX8_reads 38 = .ok (.goto 48, 3) := by decide +kernel
theorem dX8_reads_41 : decode cX8_reads 41 = .ok (.iload 4, 2) := by decide +kernel
theorem dX8_reads_43 : decode cX8_reads 43 = .ok (.bipush 119, 2) := by decide +kernel
theorem dX8_reads_45 : decode cX8_reads 45 = .ok (.if_icmp .ne 7, 3) := by decide +kernel
theorem dX8_reads_48 : decode cX8_reads 48 = .ok (.iconst 1, 1) := by decide +kernel
theorem dX8_reads_49 : decode cX8_reads 49 = .ok (.goto 37, 3) := by decide +kernel
theorem dX8_reads_52 : decode cX8_reads 52 = .ok (.iload 4, 2) := by decide +kernel
theorem dX8_reads_54 : decode cX8_reads 54 = .ok (.bipush 99, 2) := by decide +kernel
theorem dX8_reads_56 : decode cX8_reads 56 = .ok (.if_icmp .ne 7, 3) := by decide +kernel
theorem dX8_reads_59 : decode cX8_reads 59 = .ok (.iconst 2, 1) := by decide +kernel
theorem dX8_reads_60 : decode cX8_reads 60 = .ok (.goto 26, 3) := by decide +kernel
theorem dX8_reads_63 : decode cX8_reads 63 = .ok (.iload 4, 2) := by decide +kernel
theorem dX8_reads_65 : decode cX8_reads 65 = .ok (.bipush 64, 2) := by decide +kernel
theorem dX8_reads_67 : decode cX8_reads 67 = .ok (.if_icmp .ne 7, 3) := by decide +kernel
theorem dX8_reads_70 : decode cX8_reads 70 = .ok (.iconst 3, 1) := by decide +kernel
theorem dX8_reads_71 : decode cX8_reads 71 = .ok (.goto 15, 3) := by decide +kernel
theorem dX8_reads_74 : decode cX8_reads 74 = .ok (.iload 4, 2) := by decide +kernel
theorem dX8_reads_76 : decode cX8_reads 76 = .ok (.bipush 32, 2) := by decide +kernel
theorem dX8_reads_78 : decode cX8_reads 78 = .ok (.if_icmp .ne 7, 3) := by decide +kernel
theorem dX8_reads_81 : decode cX8_reads 81 = .ok (.iconst 4, 1) := by decide +kernel
theorem dX8_reads_82 : decode cX8_reads 82 = .ok (.goto 4, 3) := by decide +kernel
theorem dX8_reads_85 : decode cX8_reads 85 = .ok (.iconst 5, 1) := by decide +kernel
theorem dX8_reads_86 : decode cX8_reads 86 = .ok (.istore 5, 2) := by decide +kernel
theorem dX8_reads_88 : decode cX8_reads 88 = .ok (.iload 5, 2) := by decide +kernel
theorem dX8_reads_90 : decode cX8_reads 90 = .ok (.iconst 5, 1) := by decide +kernel
theorem dX8_reads_91 : decode cX8_reads 91 = .ok (.if_icmp .ne 5, 3) := by decide +kernel
theorem dX8_reads_94 : decode cX8_reads 94 = .ok (.iload_n 3, 1) := by decide +kernel
theorem dX8_reads_95 : decode cX8_reads 95 = .ok (.ireturn, 1) := by decide +kernel
theorem dX8_reads_96 : decode cX8_reads 96 = .ok (.iinc 3 1, 3) := by decide +kernel
theorem dX8_reads_99 : decode cX8_reads 99 = .ok (.iload 5, 2) := by decide +kernel
theorem dX8_reads_101 : decode cX8_reads 101 = .ok (.iconst 4, 1) := by decide +kernel
theorem dX8_reads_102 : decode cX8_reads 102 = .ok (.if_icmp .ne 6, 3) := by decide +kernel
theorem dX8_reads_105 : decode cX8_reads 105 = .ok (.goto (-91), 3) := by decide +kernel
theorem dX8_reads_108 : decode cX8_reads 108 = .ok (.aload_n 0, 1) := by decide +kernel
theorem dX8_reads_109 : decode cX8_reads 109 = .ok (.iload_n 3, 1) := by decide +kernel
theorem dX8_reads_110 : decode cX8_reads 110 = .ok (.invokevirtual 72, 3) := by decide +kernel
theorem dX8_reads_113 : decode cX8_reads 113 = .ok (.ifCond .eq 20, 3) := by decide +kernel
theorem dX8_reads_116 : decode cX8_reads 116 = .ok (.iload 5, 2) := by decide +kernel
theorem dX8_reads_118 : decode cX8_reads 118 = .ok (.iconst 3, 1) := by decide +kernel
theorem dX8_reads_119 : decode cX8_reads 119 = .ok (.if_icmp .ge 16, 3) := by decide +kernel
theorem dX8_reads_122 : decode cX8_reads 122 = .ok (.aload_n 0, 1) := by decide +kernel
theorem dX8_reads_123 : decode cX8_reads 123 = .ok (.getfield 7, 3) := by decide +kernel
theorem dX8_reads_126 : decode cX8_reads 126 = .ok (.iload_n 3, 1) := by decide +kernel
theorem dX8_reads_127 : decode cX8_reads 127 = .ok (.iaload, 1) := by decide +kernel
theorem dX8_reads_128 : decode cX8_reads 128 = .ok (.bipush 48, 2) := by decide +kernel
theorem dX8_reads_130 : decode cX8_reads 130 = .ok (.if_icmp .ne 5, 3) := by decide +kernel
theorem dX8_reads_133 : decode cX8_reads 133 = .ok (.iload_n 3, 1) := by decide +kernel
theorem dX8_reads_134 : decode cX8_reads 134 = .ok (.ireturn, 1) := by decide +kernel
theorem dX8_reads_135 : decode cX8_reads 135 = .ok (.iload 5, 2) := by decide +kernel
theorem dX8_reads_137 : decode cX8_reads 137 = .ok (.iconst 3, 1) := by decide +kernel
theorem dX8_reads_138 : decode cX8_reads 138 = .ok (.if_icmp .ne 9, 3) := by decide +kernel
theorem dX8_reads_141 : decode cX8_reads 141 = .ok (.sipush 500, 3) := by decide +kernel
theorem dX8_reads_144 : decode cX8_reads 144 = .ok (.goto 6, 3) := by decide +kernel
theorem dX8_reads_147 : decode cX8_reads 147 = .ok (.sipush 200, 3) := by decide +kernel
theorem dX8_reads_150 : decode cX8_reads 150 = .ok (.istore 6, 2) := by decide +kernel
theorem dX8_reads_152 : decode cX8_reads 152 = .ok (.aload_n 0, 1) := by decide +kernel
theorem dX8_reads_153 : decode cX8_reads 153 = .ok (.getfield 7, 3) := by decide +kernel
theorem dX8_reads_156 : decode cX8_reads 156 = .ok (.iload_n 3, 1) := by decide +kernel
theorem dX8_reads_157 : decode cX8_reads 157 = .ok (.iaload, 1) := by decide +kernel
theorem dX8_reads_158 : decode cX8_reads 158 = .ok (.bipush 48, 2) := by decide +kernel
theorem dX8_reads_160 : decode cX8_reads 160 = .ok (.isub, 1) := by decide +kernel
theorem dX8_reads_161 : decode cX8_reads 161 = .ok (.istore 7, 2) := by decide +kernel
theorem dX8_reads_163 : decode cX8_reads 163 = .ok (.iinc 3 1, 3) := by decide +kernel
theorem dX8_reads_166 : decode cX8_reads 166 = .ok (.aload_n 0, 1) := by decide +kernel
theorem dX8_reads_167 : decode cX8_reads 167 = .ok (.iload_n 3, 1) := by decide +kernel
theorem dX8_reads_168 : decode cX8_reads 168 = .ok (.invokevirtual 72, 3) := by decide +kernel
theorem dX8_reads_171 : decode cX8_reads 171 = .ok (.ifCond .eq 42, 3) := by decide +kernel
theorem dX8_reads_174 : decode cX8_reads 174 = .ok (.bipush 10, 2) := by decide +kernel
theorem dX8_reads_176 : decode cX8_reads 176 = .ok (.iload 7, 2) := by decide +kernel
theorem dX8_reads_178 : decode cX8_reads 178 = .ok (.imul, 1) := by decide +kernel
theorem dX8_reads_179 : decode cX8_reads 179 = .ok (.aload_n 0, 1) := by decide +kernel
theorem dX8_reads_180 : decode cX8_reads 180 = .ok (.getfield 7, 3) := by decide +kernel
theorem dX8_reads_183 : decode cX8_reads 183 = .ok (.iload_n 3, 1) := by decide +kernel
theorem dX8_reads_184 : decode cX8_reads 184 = .ok (.iaload, 1) := by decide +kernel
theorem dX8_reads_185 : decode cX8_reads 185 = .ok (.iadd, 1) := by decide +kernel
theorem dX8_reads_186 : decode cX8_reads 186 = .ok (.bipush 48, 2) := by decide +kernel
theorem dX8_reads_188 : decode cX8_reads 188 = .ok (.isub, 1) := by decide +kernel
theorem dX8_reads_189 : decode cX8_reads 189 = .ok (.istore 7, 2) := by decide +kernel
theorem dX8_reads_191 : decode cX8_reads 191 = .ok (.iload 7, 2) := by decide +kernel
theorem dX8_reads_193 : decode cX8_reads 193 = .ok (.iload 6, 2) := by decide +kernel
theorem dX8_reads_195 : decode cX8_reads 195 = .ok (.if_icmp .gt 10, 3) := by decide +kernel
theorem dX8_reads_198 : decode cX8_reads 198 = .ok (.iload 7, 2) := by decide +kernel
theorem dX8_reads_200 : decode cX8_reads 200 = .ok (.bipush 10, 2) := by decide +kernel
theorem dX8_reads_202 : decode cX8_reads 202 = .ok (.if_icmp .ge 5, 3) := by decide +kernel
theorem dX8_reads_205 : decode cX8_reads 205 = .ok (.iload_n 3, 1) := by decide +kernel
theorem dX8_reads_206 : decode cX8_reads 206 = .ok (.ireturn, 1) := by decide +kernel
theorem dX8_reads_207 : decode cX8_reads 207 = .ok (.iinc 3 1, 3) := by decide +kernel
theorem dX8_reads_210 : decode cX8_reads 210 = .ok (.goto (-44), 3) := by decide +kernel
theorem dX8_reads_213 : decode cX8_reads 213 = .ok (.iload 5, 2) := by decide +kernel
theorem dX8_reads_215 : decode cX8_reads 215 = .ok (.iconst 3, 1) := by decide +kernel
theorem dX8_reads_216 : decode cX8_reads 216 = .ok (.if_icmp .ne 9, 3) := by decide +kernel
theorem dX8_reads_219 : decode cX8_reads 219 = .ok (.iload 7, 2) := by decide +kernel
theorem dX8_reads_221 : decode cX8_reads 221 = .ok (.istore_n 2, 1) := by decide +kernel
theorem dX8_reads_222 : decode cX8_reads 222 = .ok (.goto 29, 3) := by decide +kernel
theorem dX8_reads_225 : decode cX8_reads 225 = .ok (.aload_n 0, 1) := by decide +kernel
theorem dX8_reads_226 : decode cX8_reads 226 = .ok (.getfield 19, 3) := by decide +kernel
theorem dX8_reads_229 : decode cX8_reads 229 = .ok (.iload_n 1, 1) := by decide +kernel
theorem dX8_reads_230 : decode cX8_reads 230 = .ok (.iload 5, 2) := by decide +kernel
theorem dX8_reads_232 : decode cX8_reads 232 = .ok (.iastore, 1) := by decide +kernel
theorem dX8_reads_233 : decode cX8_reads 233 = .ok (.aload_n 0, 1) := by decide +kernel
theorem dX8_reads_234 : decode cX8_reads 234 = .ok (.getfield 22, 3) := by decide +kernel
theorem dX8_reads_237 : decode cX8_reads 237 = .ok (.iload_n 1, 1) := by decide +kernel
theorem dX8_reads_238 : decode cX8_reads 238 = .ok (.iload 7, 2) := by decide +kernel
theorem dX8_reads_240 : decode cX8_reads 240 = .ok (.iastore, 1) := by decide +kernel
theorem dX8_reads_241 : decode cX8_reads 241 = .ok (.aload_n 0, 1) := by decide +kernel
theorem dX8_reads_242 : decode cX8_reads 242 = .ok (.getfield 25, 3) := by decide +kernel
theorem dX8_reads_245 : decode cX8_reads 245 = .ok (.iload_n 1, 1) := by decide +kernel
theorem dX8_reads_246 : decode cX8_reads 246 = .ok (.iload_n 2, 1) := by decide +kernel
theorem dX8_reads_247 : decode cX8_reads 247 = .ok (.iastore, 1) := by decide +kernel
theorem dX8_reads_248 : decode cX8_reads 248 = .ok (.iinc 1 1, 3) := by decide +kernel
theorem dX8_reads_251 : decode cX8_reads 251 = .ok (.goto (-237), 3) := by decide +kernel
theorem dX8_reads_254 : decode cX8_reads 254 = .ok (.aload_n 0, 1) := by decide +kernel
theorem dX8_reads_255 : decode cX8_reads 255 = .ok (.iload_n 1, 1) := by decide +kernel
theorem dX8_reads_256 : decode cX8_reads 256 = .ok (.putfield 76, 3) := by decide +kernel
theorem dX8_reads_259 : decode cX8_reads 259 = .ok (.bipush (-9), 2) := by decide +kernel
theorem dX8_reads_261 : decode cX8_reads 261 = .ok (.ireturn, 1) := by decide +kernel
theorem dX8_law_0 : decode cX8_law 0 = .ok (.aload_n 0, 1) := by decide +kernel
theorem dX8_law_1 : decode cX8_law 1 = .ok (.iconst 0, 1) := by decide +kernel
theorem dX8_law_2 : decode cX8_law 2 = .ok (.putfield 57, 3) := by decide +kernel
theorem dX8_law_5 : decode cX8_law 5 = .ok (.aload_n 0, 1) := by decide +kernel
theorem dX8_law_6 : decode cX8_law 6 = .ok (.getfield 64, 3) := by decide +kernel
theorem dX8_law_9 : decode cX8_law 9 = .ok (.ifCond .ne 6, 3) := by decide +kernel
theorem dX8_law_12 : decode cX8_law 12 = .ok (.bipush (-2), 2) := by decide +kernel
theorem dX8_law_14 : decode cX8_law 14 = .ok (.ireturn, 1) := by decide +kernel
theorem dX8_law_15 : decode cX8_law 15 = .ok (.aload_n 0, 1) := by decide +kernel
theorem dX8_law_16 : decode cX8_law 16 = .ok (.getfield 69, 3) := by decide +kernel
theorem dX8_law_19 : decode cX8_law 19 = .ok (.bipush 6, 2) := by decide +kernel
theorem dX8_law_21 : decode cX8_law 21 = .ok (.if_icmp .ne 24, 3) := by decide +kernel
theorem dX8_law_24 : decode cX8_law 24 = .ok (.aload_n 0, 1) := by decide +kernel
theorem dX8_law_25 : decode cX8_law 25 = .ok (.invokevirtual 79, 3) := by decide +kernel
theorem dX8_law_28 : decode cX8_law 28 = .ok (.istore_n 1, 1) := by decide +kernel
theorem dX8_law_29 : decode cX8_law 29 = .ok (.iload_n 1, 1) := by decide +kernel
theorem dX8_law_30 : decode cX8_law 30 = .ok (.bipush (-9), 2) := by decide +kernel
theorem dX8_law_32 : decode cX8_law 32 = .ok (.if_icmp .ne 8, 3) := by decide +kernel
theorem dX8_law_35 : decode cX8_law 35 = .ok (.bipush (-3), 2) := by decide +kernel
theorem dX8_law_37 : decode cX8_law 37 = .ok (.goto 7, 3) := by decide +kernel
theorem dX8_law_40 : decode cX8_law 40 = .ok (.bipush (-100), 2) := by decide +kernel
theorem dX8_law_42 : decode cX8_law 42 = .ok (.iload_n 1, 1) := by decide +kernel
theorem dX8_law_43 : decode cX8_law 43 = .ok (.isub, 1) := by decide +kernel
theorem dX8_law_44 : decode cX8_law 44 = .ok (.ireturn, 1) := by decide +kernel
theorem dX8_law_45 : decode cX8_law 45 = .ok (.aload_n 0, 1) := by decide +kernel
theorem dX8_law_46 : decode cX8_law 46 = .ok (.invokevirtual 83, 3) := by decide +kernel
theorem dX8_law_49 : decode cX8_law 49 = .ok (.istore_n 1, 1) := by decide +kernel
theorem dX8_law_50 : decode cX8_law 50 = .ok (.iload_n 1, 1) := by decide +kernel
theorem dX8_law_51 : decode cX8_law 51 = .ok (.bipush (-9), 2) := by decide +kernel
theorem dX8_law_53 : decode cX8_law 53 = .ok (.if_icmp .eq 8, 3) := by decide +kernel
theorem dX8_law_56 : decode cX8_law 56 = .ok (.bipush (-100), 2) := by decide +kernel
theorem dX8_law_58 : decode cX8_law 58 = .ok (.iload_n 1, 1) := by decide +kernel
theorem dX8_law_59 : decode cX8_law 59 = .ok (.isub, 1) := by decide +kernel
theorem dX8_law_60 : decode cX8_law 60 = .ok (.ireturn, 1) := by decide +kernel
theorem dX8_law_61 : decode cX8_law 61 = .ok (.aload_n 0, 1) := by decide +kernel
theorem dX8_law_62 : decode cX8_law 62 = .ok (.getfield 13, 3) := by decide +kernel
theorem dX8_law_65 : decode cX8_law 65 = .ok (.aload_n 0, 1) := by decide +kernel
theorem dX8_law_66 : decode cX8_law 66 = .ok (.getfield 69, 3) := by decide +kernel
theorem dX8_law_69 : decode cX8_law 69 = .ok (.aload_n 0, 1) := by decide +kernel
theorem dX8_law_70 : decode cX8_law 70 = .ok (.getfield 86, 3) := by decide +kernel
theorem dX8_law_73 : decode cX8_law 73 = .ok (.iastore, 1) := by decide +kernel
theorem dX8_law_74 : decode cX8_law 74 = .ok (.aload_n 0, 1) := by decide +kernel
theorem dX8_law_75 : decode cX8_law 75 = .ok (.dup, 1) := by decide +kernel
theorem dX8_law_76 : decode cX8_law 76 = .ok (.getfield 69, 3) := by decide +kernel
theorem dX8_law_79 : decode cX8_law 79 = .ok (.iconst 1, 1) := by decide +kernel
theorem dX8_law_80 : decode cX8_law 80 = .ok (.iadd, 1) := by decide +kernel
theorem dX8_law_81 : decode cX8_law 81 = .ok (.putfield 69, 3) := by decide +kernel
theorem dX8_law_84 : decode cX8_law 84 = .ok (.aload_n 0, 1) := by decide +kernel
theorem dX8_law_85 : decode cX8_law 85 = .ok (.getfield 16, 3) := by decide +kernel
theorem dX8_law_88 : decode cX8_law 88 = .ok (.aload_n 0, 1) := by decide +kernel
theorem dX8_law_89 : decode cX8_law 89 = .ok (.getfield 69, 3) := by decide +kernel
theorem dX8_law_92 : decode cX8_law 92 = .ok (.aload_n 0, 1) := by decide +kernel
theorem dX8_law_93 : decode cX8_law 93 = .ok (.getfield 76, 3) := by decide +kernel
theorem dX8_law_96 : decode cX8_law 96 = .ok (.iastore, 1) := by decide +kernel
theorem dX8_law_97 : decode cX8_law 97 = .ok (.aload_n 0, 1) := by decide +kernel
theorem dX8_law_98 : decode cX8_law 98 = .ok (.iconst 0, 1) := by decide +kernel
theorem dX8_law_99 : decode cX8_law 99 = .ok (.putfield 64, 3) := by decide +kernel
theorem dX8_law_102 : decode cX8_law 102 = .ok (.aload_n 0, 1) := by decide +kernel
theorem dX8_law_103 : decode cX8_law 103 = .ok (.getfield 69, 3) := by decide +kernel
theorem dX8_law_106 : decode cX8_law 106 = .ok (.iconst 1, 1) := by decide +kernel
theorem dX8_law_107 : decode cX8_law 107 = .ok (.isub, 1) := by decide +kernel
theorem dX8_law_108 : decode cX8_law 108 = .ok (.ireturn, 1) := by decide +kernel
theorem dX8_faultAlone_0 : decode cX8_faultAlone 0 = .ok (.aload_n 0, 1) := by decide +kernel
theorem dX8_faultAlone_1 : decode cX8_faultAlone 1 = .ok (.getfield 76, 3) := by decide +kernel
theorem dX8_faultAlone_4 : decode cX8_faultAlone 4 = .ok (.istore_n 1, 1) := by decide +kernel
theorem dX8_faultAlone_5 : decode cX8_faultAlone 5 = .ok (.aload_n 0, 1) := by decide +kernel
theorem dX8_faultAlone_6 : decode cX8_faultAlone 6 = .ok (.invokevirtual 83, 3) := by decide +kernel
theorem dX8_faultAlone_9 : decode cX8_faultAlone 9 = .ok (.istore_n 2, 1) := by decide +kernel
theorem dX8_faultAlone_10 : decode cX8_faultAlone 10 = .ok (.aload_n 0, 1) := by decide +kernel
theorem dX8_faultAlone_11 : decode cX8_faultAlone 11 = .ok (.iload_n 1, 1) := by decide +kernel
theorem dX8_faultAlone_12 : decode cX8_faultAlone 12 = .ok (.putfield 76, 3) := by decide +kernel
theorem dX8_faultAlone_15 : decode cX8_faultAlone 15 = .ok (.iload_n 2, 1) := by decide +kernel
theorem dX8_faultAlone_16 : decode cX8_faultAlone 16 = .ok (.ireturn, 1) := by decide +kernel
theorem dX8_spanBy_0 : decode cX8_spanBy 0 = .ok (.bipush (-9), 2) := by decide +kernel
theorem dX8_spanBy_2 : decode cX8_spanBy 2 = .ok (.istore_n 3, 1) := by decide +kernel
theorem dX8_spanBy_3 : decode cX8_spanBy 3 = .ok (.iconst 0, 1) := by decide +kernel
theorem dX8_spanBy_4 : decode cX8_spanBy 4 = .ok (.istore 4, 2) := by decide +kernel
theorem dX8_spanBy_6 : decode cX8_spanBy 6 = .ok (.iload 4, 2) := by decide +kernel
theorem dX8_spanBy_8 : decode cX8_spanBy 8 = .ok (.aload_n 0, 1) := by decide +kernel
theorem dX8_spanBy_9 : decode cX8_spanBy 9 = .ok (.getfield 69, 3) := by decide +kernel
theorem dX8_spanBy_12 : decode cX8_spanBy 12 = .ok (.if_icmp .ge 27, 3) := by decide +kernel
theorem dX8_spanBy_15 : decode cX8_spanBy 15 = .ok (.aload_n 0, 1) := by decide +kernel
theorem dX8_spanBy_16 : decode cX8_spanBy 16 = .ok (.getfield 13, 3) := by decide +kernel
theorem dX8_spanBy_19 : decode cX8_spanBy 19 = .ok (.iload 4, 2) := by decide +kernel
theorem dX8_spanBy_21 : decode cX8_spanBy 21 = .ok (.iaload, 1) := by decide +kernel
theorem dX8_spanBy_22 : decode cX8_spanBy 22 = .ok (.iload_n 2, 1) := by decide +kernel
theorem dX8_spanBy_23 : decode cX8_spanBy 23 = .ok (.if_icmp .gt 8, 3) := by decide +kernel
theorem dX8_spanBy_26 : decode cX8_spanBy 26 = .ok (.iload 4, 2) := by decide +kernel
theorem dX8_spanBy_28 : decode cX8_spanBy 28 = .ok (.goto 4, 3) := by decide +kernel
theorem dX8_spanBy_31 : decode cX8_spanBy 31 = .ok (.iload_n 3, 1) := by decide +kernel
theorem dX8_spanBy_32 : decode cX8_spanBy 32 = .ok (.istore_n 3, 1) := by decide +kernel
theorem dX8_spanBy_33 : decode cX8_spanBy 33 = .ok (.iinc 4 1, 3) := by decide +kernel
theorem dX8_spanBy_36 : decode cX8_spanBy 36 = .ok (.goto (-30), 3) := by decide +kernel
theorem dX8_spanBy_39 : decode cX8_spanBy 39 = .ok (.bipush 100, 2) := by decide +kernel
theorem dX8_spanBy_41 : decode cX8_spanBy 41 = .ok (.istore 4, 2) := by decide +kernel
theorem dX8_spanBy_43 : decode cX8_spanBy 43 = .ok (.iload_n 3, 1) := by decide +kernel
theorem dX8_spanBy_44 : decode cX8_spanBy 44 = .ok (.bipush (-9), 2) := by decide +kernel
theorem dX8_spanBy_46 : decode cX8_spanBy 46 = .ok (.if_icmp .ne 7, 3) := by decide +kernel
theorem dX8_spanBy_49 : decode cX8_spanBy 49 = .ok (.iconst 0, 1) := by decide +kernel
theorem dX8_spanBy_50 : decode cX8_spanBy 50 = .ok (.goto 9, 3) := by decide +kernel
theorem dX8_spanBy_53 : decode cX8_spanBy 53 = .ok (.aload_n 0, 1) := by decide +kernel
theorem dX8_spanBy_54 : decode cX8_spanBy 54 = .ok (.getfield 16, 3) := by decide +kernel
theorem dX8_spanBy_57 : decode cX8_spanBy 57 = .ok (.iload_n 3, 1) := by decide +kernel
theorem dX8_spanBy_58 : decode cX8_spanBy 58 = .ok (.iaload, 1) := by decide +kernel
theorem dX8_spanBy_59 : decode cX8_spanBy 59 = .ok (.istore 5, 2) := by decide +kernel
theorem dX8_spanBy_61 : decode cX8_spanBy 61 = .ok (.iload_n 3, 1) := by decide +kernel
theorem dX8_spanBy_62 : decode cX8_spanBy 62 = .ok (.bipush (-9), 2) := by decide +kernel
theorem dX8_spanBy_64 : decode cX8_spanBy 64 = .ok (.if_icmp .eq 58, 3) := by decide +kernel
theorem dX8_spanBy_67 : decode cX8_spanBy 67 = .ok (.iload 5, 2) := by decide +kernel
theorem dX8_spanBy_69 : decode cX8_spanBy 69 = .ok (.aload_n 0, 1) := by decide +kernel
theorem dX8_spanBy_70 : decode cX8_spanBy 70 = .ok (.getfield 16, 3) := by decide +kernel
theorem dX8_spanBy_73 : decode cX8_spanBy 73 = .ok (.iload_n 3, 1) := by decide +kernel
theorem dX8_spanBy_74 : decode cX8_spanBy 74 = .ok (.iconst 1, 1) := by decide +kernel
theorem dX8_spanBy_75 : decode cX8_spanBy 75 = .ok (.iadd, 1) := by decide +kernel
theorem dX8_spanBy_76 : decode cX8_spanBy 76 = .ok (.iaload, 1) := by decide +kernel
theorem dX8_spanBy_77 : decode cX8_spanBy 77 = .ok (.if_icmp .ge 45, 3) := by decide +kernel
theorem dX8_spanBy_80 : decode cX8_spanBy 80 = .ok (.aload_n 0, 1) := by decide +kernel
theorem dX8_spanBy_81 : decode cX8_spanBy 81 = .ok (.getfield 19, 3) := by decide +kernel
theorem dX8_spanBy_84 : decode cX8_spanBy 84 = .ok (.iload 5, 2) := by decide +kernel
theorem dX8_spanBy_86 : decode cX8_spanBy 86 = .ok (.iaload, 1) := by decide +kernel
theorem dX8_spanBy_87 : decode cX8_spanBy 87 = .ok (.iload_n 1, 1) := by decide +kernel
theorem dX8_spanBy_88 : decode cX8_spanBy 88 = .ok (.if_icmp .ne 24, 3) := by decide +kernel
theorem dX8_spanBy_91 : decode cX8_spanBy 91 = .ok (.aload_n 0, 1) := by decide +kernel
theorem dX8_spanBy_92 : decode cX8_spanBy 92 = .ok (.getfield 25, 3) := by decide +kernel
theorem dX8_spanBy_95 : decode cX8_spanBy 95 = .ok (.iload 5, 2) := by decide +kernel
theorem dX8_spanBy_97 : decode cX8_spanBy 97 = .ok (.iaload, 1) := by decide +kernel
theorem dX8_spanBy_98 : decode cX8_spanBy 98 = .ok (.iload_n 2, 1) := by decide +kernel
theorem dX8_spanBy_99 : decode cX8_spanBy 99 = .ok (.if_icmp .gt 13, 3) := by decide +kernel
theorem dX8_spanBy_102 : decode cX8_spanBy 102 = .ok (.aload_n 0, 1) := by decide +kernel
theorem dX8_spanBy_103 : decode cX8_spanBy 103 = .ok (.getfield 22, 3) := by decide +kernel
theorem dX8_spanBy_106 : decode cX8_spanBy 106 = .ok (.iload 5, 2) := by decide +kernel
theorem dX8_spanBy_108 : decode cX8_spanBy 108 = .ok (.iaload, 1) := by decide +kernel
theorem dX8_spanBy_109 : decode cX8_spanBy 109 = .ok (.goto 5, 3) := by decide +kernel
theorem dX8_spanBy_112 : decode cX8_spanBy 112 = .ok (.iload 4, 2) := by decide +kernel
theorem dX8_spanBy_114 : decode cX8_spanBy 114 = .ok (.istore 4, 2) := by decide +kernel
theorem dX8_spanBy_116 : decode cX8_spanBy 116 = .ok (.iinc 5 1, 3) := by decide +kernel
theorem dX8_spanBy_119 : decode cX8_spanBy 119 = .ok (.goto (-58), 3) := by decide +kernel
theorem dX8_spanBy_122 : decode cX8_spanBy 122 = .ok (.iload 4, 2) := by decide +kernel
theorem dX8_spanBy_124 : decode cX8_spanBy 124 = .ok (.ireturn, 1) := by decide +kernel
theorem dX8_span_0 : decode cX8_span 0 = .ok (.aload_n 0, 1) := by decide +kernel
theorem dX8_span_1 : decode cX8_span 1 = .ok (.iconst 0, 1) := by decide +kernel
theorem dX8_span_2 : decode cX8_span 2 = .ok (.putfield 57, 3) := by decide +kernel
theorem dX8_span_5 : decode cX8_span 5 = .ok (.iload_n 1, 1) := by decide +kernel
theorem dX8_span_6 : decode cX8_span 6 = .ok (.iconst 0, 1) := by decide +kernel
theorem dX8_span_7 : decode cX8_span 7 = .ok (.iconst 2, 1) := by decide +kernel
theorem dX8_span_8 : decode cX8_span 8 = .ok (.invokestatic 60, 3) := by decide +kernel
theorem dX8_span_11 : decode cX8_span 11 = .ok (.ifCond .eq 23, 3) := by decide +kernel
theorem dX8_span_14 : decode cX8_span 14 = .ok (.iload_n 2, 1) := by decide +kernel
theorem dX8_span_15 : decode cX8_span 15 = .ok (.iconst 0, 1) := by decide +kernel
theorem dX8_span_16 : decode cX8_span 16 = .ok (.sipush 500, 3) := by decide +kernel
theorem dX8_span_19 : decode cX8_span 19 = .ok (.invokestatic 60, 3) := by decide +kernel
theorem dX8_span_22 : decode cX8_span 22 = .ok (.ifCond .eq 12, 3) := by decide +kernel
theorem dX8_span_25 : decode cX8_span 25 = .ok (.aload_n 0, 1) := by decide +kernel
theorem dX8_span_26 : decode cX8_span 26 = .ok (.iload_n 1, 1) := by decide +kernel
theorem dX8_span_27 : decode cX8_span 27 = .ok (.iload_n 2, 1) := by decide +kernel
theorem dX8_span_28 : decode cX8_span 28 = .ok (.invokevirtual 89, 3) := by decide +kernel
theorem dX8_span_31 : decode cX8_span 31 = .ok (.goto 4, 3) := by decide +kernel
theorem dX8_span_34 : decode cX8_span 34 = .ok (.iconst (-1), 1) := by decide +kernel
theorem dX8_span_35 : decode cX8_span 35 = .ok (.ireturn, 1) := by decide +kernel
theorem dX8_days_0 : decode cX8_days 0 = .ok (.aload_n 0, 1) := by decide +kernel
theorem dX8_days_1 : decode cX8_days 1 = .ok (.iconst 0, 1) := by decide +kernel
theorem dX8_days_2 : decode cX8_days 2 = .ok (.putfield 57, 3) := by decide +kernel
theorem dX8_days_5 : decode cX8_days 5 = .ok (.iload_n 1, 1) := by decide +kernel
theorem dX8_days_6 : decode cX8_days 6 = .ok (.iconst 1, 1) := by decide +kernel
theorem dX8_days_7 : decode cX8_days 7 = .ok (.bipush 50, 2) := by decide +kernel
theorem dX8_days_9 : decode cX8_days 9 = .ok (.invokestatic 60, 3) := by decide +kernel
theorem dX8_days_12 : decode cX8_days 12 = .ok (.ifCond .ne 5, 3) := by decide +kernel
theorem dX8_days_15 : decode cX8_days 15 = .ok (.iconst (-1), 1) := by decide +kernel
theorem dX8_days_16 : decode cX8_days 16 = .ok (.ireturn, 1) := by decide +kernel
theorem dX8_days_17 : decode cX8_days 17 = .ok (.aload_n 0, 1) := by decide +kernel
theorem dX8_days_18 : decode cX8_days 18 = .ok (.getfield 86, 3) := by decide +kernel
theorem dX8_days_21 : decode cX8_days 21 = .ok (.iload_n 1, 1) := by decide +kernel
theorem dX8_days_22 : decode cX8_days 22 = .ok (.iadd, 1) := by decide +kernel
theorem dX8_days_23 : decode cX8_days 23 = .ok (.sipush 500, 3) := by decide +kernel
theorem dX8_days_26 : decode cX8_days 26 = .ok (.if_icmp .le 6, 3) := by decide +kernel
theorem dX8_days_29 : decode cX8_days 29 = .ok (.bipush (-2), 2) := by decide +kernel
theorem dX8_days_31 : decode cX8_days 31 = .ok (.ireturn, 1) := by decide +kernel
theorem dX8_days_32 : decode cX8_days 32 = .ok (.aload_n 0, 1) := by decide +kernel
theorem dX8_days_33 : decode cX8_days 33 = .ok (.dup, 1) := by decide +kernel
theorem dX8_days_34 : decode cX8_days 34 = .ok (.getfield 86, 3) := by decide +kernel
theorem dX8_days_37 : decode cX8_days 37 = .ok (.iload_n 1, 1) := by decide +kernel
theorem dX8_days_38 : decode cX8_days 38 = .ok (.iadd, 1) := by decide +kernel
theorem dX8_days_39 : decode cX8_days 39 = .ok (.putfield 86, 3) := by decide +kernel
theorem dX8_days_42 : decode cX8_days 42 = .ok (.aload_n 0, 1) := by decide +kernel
theorem dX8_days_43 : decode cX8_days 43 = .ok (.getfield 86, 3) := by decide +kernel
theorem dX8_days_46 : decode cX8_days 46 = .ok (.ireturn, 1) := by decide +kernel
theorem dX8_isFlue_0 : decode cX8_isFlue 0 = .ok (.iload_n 1, 1) := by decide +kernel
theorem dX8_isFlue_1 : decode cX8_isFlue 1 = .ok (.iconst 0, 1) := by decide +kernel
theorem dX8_isFlue_2 : decode cX8_isFlue 2 = .ok (.aload_n 0, 1) := by decide +kernel
theorem dX8_isFlue_3 : decode cX8_isFlue 3 = .ok (.getfield 93, 3) := by decide +kernel
theorem dX8_isFlue_6 : decode cX8_isFlue 6 = .ok (.iconst 1, 1) := by decide +kernel
theorem dX8_isFlue_7 : decode cX8_isFlue 7 = .ok (.isub, 1) := by decide +kernel
theorem dX8_isFlue_8 : decode cX8_isFlue 8 = .ok (.invokestatic 60, 3) := by decide +kernel
theorem dX8_isFlue_11 : decode cX8_isFlue 11 = .ok (.ireturn, 1) := by decide +kernel
theorem dX8_flue_0 : decode cX8_flue 0 = .ok (.aload_n 0, 1) := by decide +kernel
theorem dX8_flue_1 : decode cX8_flue 1 = .ok (.iconst 0, 1) := by decide +kernel
theorem dX8_flue_2 : decode cX8_flue 2 = .ok (.putfield 57, 3) := by decide +kernel
theorem dX8_flue_5 : decode cX8_flue 5 = .ok (.iload_n 1, 1) := by decide +kernel
theorem dX8_flue_6 : decode cX8_flue 6 = .ok (.iconst 0, 1) := by decide +kernel
theorem dX8_flue_7 : decode cX8_flue 7 = .ok (.iconst 2, 1) := by decide +kernel
theorem dX8_flue_8 : decode cX8_flue 8 = .ok (.invokestatic 60, 3) := by decide +kernel
theorem dX8_flue_11 : decode cX8_flue 11 = .ok (.ifCond .eq 76, 3) := by decide +kernel
theorem dX8_flue_14 : decode cX8_flue 14 = .ok (.iload_n 2, 1) := by decide +kernel
theorem dX8_flue_15 : decode cX8_flue 15 = .ok (.iconst 0, 1) := by decide +kernel
theorem dX8_flue_16 : decode cX8_flue 16 = .ok (.iconst 2, 1) := by decide +kernel
theorem dX8_flue_17 : decode cX8_flue 17 = .ok (.invokestatic 60, 3) := by decide +kernel
theorem dX8_flue_20 : decode cX8_flue 20 = .ok (.ifCond .eq 67, 3) := by decide +kernel
theorem dX8_flue_23 : decode cX8_flue 23 = .ok (.iload_n 3, 1) := by decide +kernel
theorem dX8_flue_24 : decode cX8_flue 24 = .ok (.iconst 1, 1) := by decide +kernel
theorem dX8_flue_25 : decode cX8_flue 25 = .ok (.bipush 30, 2) := by decide +kernel
theorem dX8_flue_27 : decode cX8_flue 27 = .ok (.invokestatic 60, 3) := by decide +kernel
theorem dX8_flue_30 : decode cX8_flue 30 = .ok (.ifCond .eq 57, 3) := by decide +kernel
theorem dX8_flue_33 : decode cX8_flue 33 = .ok (.iload 4, 2) := by decide +kernel
theorem dX8_flue_35 : decode cX8_flue 35 = .ok (.bipush 10, 2) := by decide +kernel
theorem dX8_flue_37 : decode cX8_flue 37 = .ok (.bipush 40, 2) := by decide +kernel
theorem dX8_flue_39 : decode cX8_flue 39 = .ok (.invokestatic 60, 3) := by decide +kernel
theorem dX8_flue_42 : decode cX8_flue 42 = .ok (.ifCond .eq 45, 3) := by decide +kernel
theorem dX8_flue_45 : decode cX8_flue 45 = .ok (.iload 5, 2) := by decide +kernel
theorem dX8_flue_47 : decode cX8_flue 47 = .ok (.iconst 0, 1) := by decide +kernel
theorem dX8_flue_48 : decode cX8_flue 48 = .ok (.iconst 4, 1) := by decide +kernel
theorem dX8_flue_49 : decode cX8_flue 49 = .ok (.invokestatic 60, 3) := by decide +kernel
theorem dX8_flue_52 : decode cX8_flue 52 = .ok (.ifCond .eq 35, 3) := by decide +kernel
theorem dX8_flue_55 : decode cX8_flue 55 = .ok (.iload 6, 2) := by decide +kernel
theorem dX8_flue_57 : decode cX8_flue 57 = .ok (.iconst 0, 1) := by decide +kernel
theorem dX8_flue_58 : decode cX8_flue 58 = .ok (.bipush 20, 2) := by decide +kernel
theorem dX8_flue_60 : decode cX8_flue 60 = .ok (.invokestatic 60, 3) := by decide +kernel
theorem dX8_flue_63 : decode cX8_flue 63 = .ok (.ifCond .eq 24, 3) := by decide +kernel
theorem dX8_flue_66 : decode cX8_flue 66 = .ok (.iload 7, 2) := by decide +kernel
theorem dX8_flue_68 : decode cX8_flue 68 = .ok (.iconst 0, 1) := by decide +kernel
theorem dX8_flue_69 : decode cX8_flue 69 = .ok (.bipush 20, 2) := by decide +kernel
theorem dX8_flue_71 : decode cX8_flue 71 = .ok (.invokestatic 60, 3) := by decide +kernel
theorem dX8_flue_74 : decode cX8_flue 74 = .ok (.ifCond .eq 13, 3) := by decide +kernel
theorem dX8_flue_77 : decode cX8_flue 77 = .ok (.iload 8, 2) := by decide +kernel
theorem dX8_flue_79 : decode cX8_flue 79 = .ok (.iconst 0, 1) := by decide +kernel
theorem dX8_flue_80 : decode cX8_flue 80 = .ok (.iconst 3, 1) := by decide +kernel
theorem dX8_flue_81 : decode cX8_flue 81 = .ok (.invokestatic 60, 3) := by decide +kernel
theorem dX8_flue_84 : decode cX8_flue 84 = .ok (.ifCond .ne 5, 3) := by decide +kernel
theorem dX8_flue_87 : decode cX8_flue 87 = .ok (.iconst (-1), 1) := by decide +kernel
theorem dX8_flue_88 : decode cX8_flue 88 = .ok (.ireturn, 1) := by decide +kernel
theorem dX8_flue_89 : decode cX8_flue 89 = .ok (.aload_n 0, 1) := by decide +kernel
theorem dX8_flue_90 : decode cX8_flue 90 = .ok (.getfield 93, 3) := by decide +kernel
theorem dX8_flue_93 : decode cX8_flue 93 = .ok (.bipush 12, 2) := by decide +kernel
theorem dX8_flue_95 : decode cX8_flue 95 = .ok (.if_icmp .ne 6, 3) := by decide +kernel
theorem dX8_flue_98 : decode cX8_flue 98 = .ok (.bipush (-3), 2) := by decide +kernel
theorem dX8_flue_100 : decode cX8_flue 100 = .ok (.ireturn, 1) := by decide +kernel
theorem dX8_flue_101 : decode cX8_flue 101 = .ok (.bipush 11, 2) := by decide +kernel
theorem dX8_flue_103 : decode cX8_flue 103 = .ok (.aload_n 0, 1) := by decide +kernel
theorem dX8_flue_104 : decode cX8_flue 104 = .ok (.getfield 93, 3) := by decide +kernel
theorem dX8_flue_107 : decode cX8_flue 107 = .ok (.imul, 1) := by decide +kernel
theorem dX8_flue_108 : decode cX8_flue 108 = .ok (.istore 9, 2) := by decide +kernel
theorem dX8_flue_110 : decode cX8_flue 110 = .ok (.aload_n 0, 1) := by decide +kernel
theorem dX8_flue_111 : decode cX8_flue 111 = .ok (.getfield 28, 3) := by decide +kernel
theorem dX8_flue_114 : decode cX8_flue 114 = .ok (.iload 9, 2) := by decide +kernel
theorem dX8_flue_116 : decode cX8_flue 116 = .ok (.iload_n 1, 1) := by decide +kernel
theorem dX8_flue_117 : decode cX8_flue 117 = .ok (.iastore, 1) := by decide +kernel
theorem dX8_flue_118 : decode cX8_flue 118 = .ok (.aload_n 0, 1) := by decide +kernel
theorem dX8_flue_119 : decode cX8_flue 119 = .ok (.getfield 28, 3) := by decide +kernel
theorem dX8_flue_122 : decode cX8_flue 122 = .ok (.iload 9, 2) := by decide +kernel
theorem dX8_flue_124 : decode cX8_flue 124 = .ok (.iconst 1, 1) := by decide +kernel
theorem dX8_flue_125 : decode cX8_flue 125 = .ok (.iadd, 1) := by decide +kernel
theorem dX8_flue_126 : decode cX8_flue 126 = .ok (.iload_n 2, 1) := by decide +kernel
theorem dX8_flue_127 : decode cX8_flue 127 = .ok (.iastore, 1) := by decide +kernel
theorem dX8_flue_128 : decode cX8_flue 128 = .ok (.aload_n 0, 1) := by decide +kernel
theorem dX8_flue_129 : decode cX8_flue 129 = .ok (.getfield 28, 3) := by decide +kernel
theorem dX8_flue_132 : decode cX8_flue 132 = .ok (.iload 9, 2) := by decide +kernel
theorem dX8_flue_134 : decode cX8_flue 134 = .ok (.iconst 2, 1) := by decide +kernel
theorem dX8_flue_135 : decode cX8_flue 135 = .ok (.iadd, 1) := by decide +kernel
theorem dX8_flue_136 : decode cX8_flue 136 = .ok (.iload_n 3, 1) := by decide +kernel
theorem dX8_flue_137 : decode cX8_flue 137 = .ok (.iastore, 1) := by decide +kernel
theorem dX8_flue_138 : decode cX8_flue 138 = .ok (.aload_n 0, 1) := by decide +kernel
theorem dX8_flue_139 : decode cX8_flue 139 = .ok (.getfield 28, 3) := by decide +kernel
theorem dX8_flue_142 : decode cX8_flue 142 = .ok (.iload 9, 2) := by decide +kernel
theorem dX8_flue_144 : decode cX8_flue 144 = .ok (.iconst 3, 1) := by decide +kernel
theorem dX8_flue_145 : decode cX8_flue 145 = .ok (.iadd, 1) := by decide +kernel
theorem dX8_flue_146 : decode cX8_flue 146 = .ok (.iload 4, 2) := by decide +kernel
theorem dX8_flue_148 : decode cX8_flue 148 = .ok (.iastore, 1) := by decide +kernel
theorem dX8_flue_149 : decode cX8_flue 149 = .ok (.aload_n 0, 1) := by decide +kernel
theorem dX8_flue_150 : decode cX8_flue 150 = .ok (.getfield 28, 3) := by decide +kernel
theorem dX8_flue_153 : decode cX8_flue 153 = .ok (.iload 9, 2) := by decide +kernel
theorem dX8_flue_155 : decode cX8_flue 155 = .ok (.iconst 4, 1) := by decide +kernel
theorem dX8_flue_156 : decode cX8_flue 156 = .ok (.iadd, 1) := by decide +kernel
theorem dX8_flue_157 : decode cX8_flue 157 = .ok (.iload 5, 2) := by decide +kernel
theorem dX8_flue_159 : decode cX8_flue 159 = .ok (.iastore, 1) := by decide +kernel
theorem dX8_flue_160 : decode cX8_flue 160 = .ok (.aload_n 0, 1) := by decide +kernel
theorem dX8_flue_161 : decode cX8_flue 161 = .ok (.getfield 28, 3) := by decide +kernel
theorem dX8_flue_164 : decode cX8_flue 164 = .ok (.iload 9, 2) := by decide +kernel
theorem dX8_flue_166 : decode cX8_flue 166 = .ok (.iconst 5, 1) := by decide +kernel
theorem dX8_flue_167 : decode cX8_flue 167 = .ok (.iadd, 1) := by decide +kernel
theorem dX8_flue_168 : decode cX8_flue 168 = .ok (.iload 6, 2) := by decide +kernel
theorem dX8_flue_170 : decode cX8_flue 170 = .ok (.iastore, 1) := by decide +kernel
theorem dX8_flue_171 : decode cX8_flue 171 = .ok (.aload_n 0, 1) := by decide +kernel
theorem dX8_flue_172 : decode cX8_flue 172 = .ok (.getfield 28, 3) := by decide +kernel
theorem dX8_flue_175 : decode cX8_flue 175 = .ok (.iload 9, 2) := by decide +kernel
theorem dX8_flue_177 : decode cX8_flue 177 = .ok (.bipush 6, 2) := by decide +kernel
theorem dX8_flue_179 : decode cX8_flue 179 = .ok (.iadd, 1) := by decide +kernel
theorem dX8_flue_180 : decode cX8_flue 180 = .ok (.iload 7, 2) := by decide +kernel
theorem dX8_flue_182 : decode cX8_flue 182 = .ok (.iastore, 1) := by decide +kernel
theorem dX8_flue_183 : decode cX8_flue 183 = .ok (.aload_n 0, 1) := by decide +kernel
theorem dX8_flue_184 : decode cX8_flue 184 = .ok (.getfield 28, 3) := by decide +kernel
theorem dX8_flue_187 : decode cX8_flue 187 = .ok (.iload 9, 2) := by decide +kernel
theorem dX8_flue_189 : decode cX8_flue 189 = .ok (.bipush 7, 2) := by decide +kernel
theorem dX8_flue_191 : decode cX8_flue 191 = .ok (.iadd, 1) := by decide +kernel
theorem dX8_flue_192 : decode cX8_flue 192 = .ok (.iload 8, 2) := by decide +kernel
theorem dX8_flue_194 : decode cX8_flue 194 = .ok (.iastore, 1) := by decide +kernel
theorem dX8_flue_195 : decode cX8_flue 195 = .ok (.aload_n 0, 1) := by decide +kernel
theorem dX8_flue_196 : decode cX8_flue 196 = .ok (.getfield 28, 3) := by decide +kernel
theorem dX8_flue_199 : decode cX8_flue 199 = .ok (.iload 9, 2) := by decide +kernel
theorem dX8_flue_201 : decode cX8_flue 201 = .ok (.bipush 8, 2) := by decide +kernel
theorem dX8_flue_203 : decode cX8_flue 203 = .ok (.iadd, 1) := by decide +kernel
theorem dX8_flue_204 : decode cX8_flue 204 = .ok (.aload_n 0, 1) := by decide +kernel
theorem dX8_flue_205 : decode cX8_flue 205 = .ok (.getfield 86, 3) := by decide +kernel
theorem dX8_flue_208 : decode cX8_flue 208 = .ok (.iastore, 1) := by decide +kernel
theorem dX8_flue_209 : decode cX8_flue 209 = .ok (.aload_n 0, 1) := by decide +kernel
theorem dX8_flue_210 : decode cX8_flue 210 = .ok (.getfield 28, 3) := by decide +kernel
theorem dX8_flue_213 : decode cX8_flue 213 = .ok (.iload 9, 2) := by decide +kernel
theorem dX8_flue_215 : decode cX8_flue 215 = .ok (.bipush 9, 2) := by decide +kernel
theorem dX8_flue_217 : decode cX8_flue 217 = .ok (.iadd, 1) := by decide +kernel
theorem dX8_flue_218 : decode cX8_flue 218 = .ok (.aload_n 0, 1) := by decide +kernel
theorem dX8_flue_219 : decode cX8_flue 219 = .ok (.getfield 86, 3) := by decide +kernel
theorem dX8_flue_222 : decode cX8_flue 222 = .ok (.iastore, 1) := by decide +kernel
theorem dX8_flue_223 : decode cX8_flue 223 = .ok (.aload_n 0, 1) := by decide +kernel
theorem dX8_flue_224 : decode cX8_flue 224 = .ok (.getfield 28, 3) := by decide +kernel
theorem dX8_flue_227 : decode cX8_flue 227 = .ok (.iload 9, 2) := by decide +kernel
theorem dX8_flue_229 : decode cX8_flue 229 = .ok (.bipush 10, 2) := by decide +kernel
theorem dX8_flue_231 : decode cX8_flue 231 = .ok (.iadd, 1) := by decide +kernel
theorem dX8_flue_232 : decode cX8_flue 232 = .ok (.iconst 0, 1) := by decide +kernel
theorem dX8_flue_233 : decode cX8_flue 233 = .ok (.iastore, 1) := by decide +kernel
theorem dX8_flue_234 : decode cX8_flue 234 = .ok (.aload_n 0, 1) := by decide +kernel
theorem dX8_flue_235 : decode cX8_flue 235 = .ok (.dup, 1) := by decide +kernel
theorem dX8_flue_236 : decode cX8_flue 236 = .ok (.getfield 93, 3) := by decide +kernel
theorem dX8_flue_239 : decode cX8_flue 239 = .ok (.iconst 1, 1) := by decide +kernel
theorem dX8_flue_240 : decode cX8_flue 240 = .ok (.iadd, 1) := by decide +kernel
theorem dX8_flue_241 : decode cX8_flue 241 = .ok (.putfield 93, 3) := by decide +kernel
theorem dX8_flue_244 : decode cX8_flue 244 = .ok (.aload_n 0, 1) := by decide +kernel
theorem dX8_flue_245 : decode cX8_flue 245 = .ok (.getfield 93, 3) := by decide +kernel
theorem dX8_flue_248 : decode cX8_flue 248 = .ok (.iconst 1, 1) := by decide +kernel
theorem dX8_flue_249 : decode cX8_flue 249 = .ok (.isub, 1) := by decide +kernel
theorem dX8_flue_250 : decode cX8_flue 250 = .ok (.ireturn, 1) := by decide +kernel
theorem dX8_of_0 : decode cX8_of 0 = .ok (.aload_n 0, 1) := by decide +kernel
theorem dX8_of_1 : decode cX8_of 1 = .ok (.getfield 28, 3) := by decide +kernel
theorem dX8_of_4 : decode cX8_of 4 = .ok (.bipush 11, 2) := by decide +kernel
theorem dX8_of_6 : decode cX8_of 6 = .ok (.iload_n 1, 1) := by decide +kernel
theorem dX8_of_7 : decode cX8_of 7 = .ok (.imul, 1) := by decide +kernel
theorem dX8_of_8 : decode cX8_of 8 = .ok (.iload_n 2, 1) := by decide +kernel
theorem dX8_of_9 : decode cX8_of 9 = .ok (.iadd, 1) := by decide +kernel
theorem dX8_of_10 : decode cX8_of 10 = .ok (.iaload, 1) := by decide +kernel
theorem dX8_of_11 : decode cX8_of 11 = .ok (.ireturn, 1) := by decide +kernel
theorem dX8_draught_0 : decode cX8_draught 0 = .ok (.aload_n 0, 1) := by decide +kernel
theorem dX8_draught_1 : decode cX8_draught 1 = .ok (.iconst 0, 1) := by decide +kernel
theorem dX8_draught_2 : decode cX8_draught 2 = .ok (.putfield 57, 3) := by decide +kernel
theorem dX8_draught_5 : decode cX8_draught 5 = .ok (.aload_n 0, 1) := by decide +kernel
theorem dX8_draught_6 : decode cX8_draught 6 = .ok (.iload_n 1, 1) := by decide +kernel
theorem dX8_draught_7 : decode cX8_draught 7 = .ok (.invokevirtual 96, 3) := by decide +kernel
theorem dX8_draught_10 : decode cX8_draught 10 = .ok (.ifCond .ne 5, 3) := by decide +kernel
theorem dX8_draught_13 : decode cX8_draught 13 = .ok (.iconst (-1), 1) := by decide +kernel
theorem dX8_draught_14 : decode cX8_draught 14 = .ok (.ireturn, 1) := by decide +kernel
theorem dX8_draught_15 : decode cX8_draught 15 = .ok (.aload_n 0, 1) := by decide +kernel
theorem dX8_draught_16 : decode cX8_draught 16 = .ok (.iload_n 1, 1) := by decide +kernel
theorem dX8_draught_17 : decode cX8_draught 17 = .ok (.iconst 0, 1) := by decide +kernel
theorem dX8_draught_18 : decode cX8_draught 18 = .ok (.invokevirtual 99, 3) := by decide +kernel
theorem dX8_draught_21 : decode cX8_draught 21 = .ok (.istore_n 2, 1) := by decide +kernel
theorem dX8_draught_22 : decode cX8_draught 22 = .ok (.aload_n 0, 1) := by decide +kernel
theorem dX8_draught_23 : decode cX8_draught 23 = .ok (.dup, 1) := by decide +kernel
theorem dX8_draught_24 : decode cX8_draught 24 = .ok (.getfield 102, 3) := by decide +kernel
theorem dX8_draught_27 : decode cX8_draught 27 = .ok (.iload_n 2, 1) := by decide +kernel
theorem dX8_draught_28 : decode cX8_draught 28 = .ok (.ifCond .ne 7, 3) := by decide +kernel
theorem dX8_draught_31 : decode cX8_draught 31 = .ok (.lconst 1, 1) := by decide +kernel
theorem dX8_draught_32 : decode cX8_draught 32 = .ok (.goto 17, 3) := by decide +kernel
theorem dX8_draught_35 : decode cX8_draught 35 = .ok (.iload_n 2, 1) := by decide +kernel
theorem dX8_draught_36 : decode cX8_draught 36 = .ok (.iconst 1, 1) := by decide +kernel
theorem dX8_draught_37 : decode cX8_draught 37 = .ok (.if_icmp .ne 9, 3) := by decide +kernel
theorem dX8_draught_40 : decode cX8_draught 40 = .ok (.ldc2_w 106, 3) := by decide +kernel
theorem dX8_draught_43 : decode cX8_draught 43 = .ok (.goto 6, 3) := by decide +kernel
theorem dX8_draught_46 : decode cX8_draught 46 = .ok (.ldc2_w 108, 3) := by decide +kernel
theorem dX8_draught_49 : decode cX8_draught 49 = .ok (.ladd, 1) := by decide +kernel
theorem dX8_draught_50 : decode cX8_draught 50 = .ok (.putfield 102, 3) := by decide +kernel
theorem dX8_draught_53 : decode cX8_draught 53 = .ok (.aload_n 0, 1) := by decide +kernel
theorem dX8_draught_54 : decode cX8_draught 54 = .ok (.iload_n 1, 1) := by decide +kernel
theorem dX8_draught_55 : decode cX8_draught 55 = .ok (.iconst 1, 1) := by decide +kernel
theorem dX8_draught_56 : decode cX8_draught 56 = .ok (.invokevirtual 99, 3) := by decide +kernel
theorem dX8_draught_59 : decode cX8_draught 59 = .ok (.istore_n 3, 1) := by decide +kernel
theorem dX8_draught_60 : decode cX8_draught 60 = .ok (.aload_n 0, 1) := by decide +kernel
theorem dX8_draught_61 : decode cX8_draught 61 = .ok (.iload_n 1, 1) := by decide +kernel
theorem dX8_draught_62 : decode cX8_draught 62 = .ok (.iconst 2, 1) := by decide +kernel
theorem dX8_draught_63 : decode cX8_draught 63 = .ok (.invokevirtual 99, 3) := by decide +kernel
theorem dX8_draught_66 : decode cX8_draught 66 = .ok (.iload_n 3, 1) := by decide +kernel
theorem dX8_draught_67 : decode cX8_draught 67 = .ok (.ifCond .ne 8, 3) := by decide +kernel
theorem dX8_draught_70 : decode cX8_draught 70 = .ok (.bipush 10, 2) := by decide +kernel
theorem dX8_draught_72 : decode cX8_draught 72 = .ok (.goto 15, 3) := by decide +kernel
theorem dX8_draught_75 : decode cX8_draught 75 = .ok (.iload_n 3, 1) := by decide +kernel
theorem dX8_draught_76 : decode cX8_draught 76 = .ok (.iconst 1, 1) := by decide +kernel
theorem dX8_draught_77 : decode cX8_draught 77 = .ok (.if_icmp .ne 8, 3) := by decide +kernel
theorem dX8_draught_80 : decode cX8_draught 80 = .ok (.bipush 30, 2) := by decide +kernel
theorem dX8_draught_82 : decode cX8_draught 82 = .ok (.goto 5, 3) := by decide +kernel
theorem dX8_draught_85 : decode cX8_draught 85 = .ok (.bipush 40, 2) := by decide +kernel
theorem dX8_draught_87 : decode cX8_draught 87 = .ok (.imul, 1) := by decide +kernel
theorem dX8_draught_88 : decode cX8_draught 88 = .ok (.aload_n 0, 1) := by decide +kernel
theorem dX8_draught_89 : decode cX8_draught 89 = .ok (.iload_n 1, 1) := by decide +kernel
theorem dX8_draught_90 : decode cX8_draught 90 = .ok (.iconst 3, 1) := by decide +kernel
theorem dX8_draught_91 : decode cX8_draught 91 = .ok (.invokevirtual 99, 3) := by decide +kernel
theorem dX8_draught_94 : decode cX8_draught 94 = .ok (.idiv, 1) := by decide +kernel
theorem dX8_draught_95 : decode cX8_draught 95 = .ok (.istore 4, 2) := by decide +kernel
theorem dX8_draught_97 : decode cX8_draught 97 = .ok (.iload_n 2, 1) := by decide +kernel
theorem dX8_draught_98 : decode cX8_draught 98 = .ok (.ifCond .le 29, 3) := by decide +kernel
theorem dX8_draught_101 : decode cX8_draught 101 = .ok (.iload 4, 2) := by decide +kernel
theorem dX8_draught_103 : decode cX8_draught 103 = .ok (.iconst 2, 1) := by decide +kernel
theorem dX8_draught_104 : decode cX8_draught 104 = .ok (.aload_n 0, 1) := by decide +kernel
theorem dX8_draught_105 : decode cX8_draught 105 = .ok (.iload_n 1, 1) := by decide +kernel
theorem dX8_draught_106 : decode cX8_draught 106 = .ok (.iconst 4, 1) := by decide +kernel
theorem dX8_draught_107 : decode cX8_draught 107 = .ok (.invokevirtual 99, 3) := by decide +kernel
theorem dX8_draught_110 : decode cX8_draught 110 = .ok (.imul, 1) := by decide +kernel
theorem dX8_draught_111 : decode cX8_draught 111 = .ok (.isub, 1) := by decide +kernel
theorem dX8_draught_112 : decode cX8_draught 112 = .ok (.istore 4, 2) := by decide +kernel
theorem dX8_draught_114 : decode cX8_draught 114 = .ok (.iload 4, 2) := by decide +kernel
theorem dX8_draught_116 : decode cX8_draught 116 = .ok (.ifCond .ge 7, 3) := by decide +kernel
theorem dX8_draught_119 : decode cX8_draught 119 = .ok (.iconst 0, 1) := by decide +kernel
theorem dX8_draught_120 : decode cX8_draught 120 = .ok (.goto 5, 3) := by decide +kernel
theorem dX8_draught_123 : decode cX8_draught 123 = .ok (.iload 4, 2) := by decide +kernel
theorem dX8_draught_125 : decode cX8_draught 125 = .ok (.istore 4, 2) := by decide +kernel
theorem dX8_draught_127 : decode cX8_draught 127 = .ok (.iload_n 2, 1) := by decide +kernel
theorem dX8_draught_128 : decode cX8_draught 128 = .ok (.iconst 2, 1) := by decide +kernel
theorem dX8_draught_129 : decode cX8_draught 129 = .ok (.if_icmp .ne 10, 3) := by decide +kernel
theorem dX8_draught_132 : decode cX8_draught 132 = .ok (.iload 4, 2) := by decide +kernel
theorem dX8_draught_134 : decode cX8_draught 134 = .ok (.iconst 2, 1) := by decide +kernel
theorem dX8_draught_135 : decode cX8_draught 135 = .ok (.idiv, 1) := by decide +kernel
theorem dX8_draught_136 : decode cX8_draught 136 = .ok (.goto 5, 3) := by decide +kernel
theorem dX8_draught_139 : decode cX8_draught 139 = .ok (.iload 4, 2) := by decide +kernel
theorem dX8_draught_141 : decode cX8_draught 141 = .ok (.ireturn, 1) := by decide +kernel
theorem dX8_dueBy_0 : decode cX8_dueBy 0 = .ok (.iconst 1, 1) := by decide +kernel
theorem dX8_dueBy_1 : decode cX8_dueBy 1 = .ok (.istore_n 3, 1) := by decide +kernel
theorem dX8_dueBy_2 : decode cX8_dueBy 2 = .ok (.iload_n 3, 1) := by decide +kernel
theorem dX8_dueBy_3 : decode cX8_dueBy 3 = .ok (.aload_n 0, 1) := by decide +kernel
theorem dX8_dueBy_4 : decode cX8_dueBy 4 = .ok (.aload_n 0, 1) := by decide +kernel
theorem dX8_dueBy_5 : decode cX8_dueBy 5 = .ok (.iload_n 1, 1) := by decide +kernel
theorem dX8_dueBy_6 : decode cX8_dueBy 6 = .ok (.iconst 1, 1) := by decide +kernel
theorem dX8_dueBy_7 : decode cX8_dueBy 7 = .ok (.invokevirtual 99, 3) := by decide +kernel
theorem dX8_dueBy_10 : decode cX8_dueBy 10 = .ok (.iload_n 2, 1) := by decide +kernel
theorem dX8_dueBy_11 : decode cX8_dueBy 11 = .ok (.iload_n 3, 1) := by decide +kernel
theorem dX8_dueBy_12 : decode cX8_dueBy 12 = .ok (.iadd, 1) := by decide +kernel
theorem dX8_dueBy_13 : decode cX8_dueBy 13 = .ok (.invokevirtual 89, 3) := by decide +kernel
theorem dX8_dueBy_16 : decode cX8_dueBy 16 = .ok (.if_icmp .ge 9, 3) := by decide +kernel
theorem dX8_dueBy_19 : decode cX8_dueBy 19 = .ok (.iinc 3 1, 3) := by decide +kernel
theorem dX8_dueBy_22 : decode cX8_dueBy 22 = .ok (.goto (-20), 3) := by decide +kernel
theorem dX8_dueBy_25 : decode cX8_dueBy 25 = .ok (.iload_n 2, 1) := by decide +kernel
theorem dX8_dueBy_26 : decode cX8_dueBy 26 = .ok (.iload_n 3, 1) := by decide +kernel
theorem dX8_dueBy_27 : decode cX8_dueBy 27 = .ok (.iadd, 1) := by decide +kernel
theorem dX8_dueBy_28 : decode cX8_dueBy 28 = .ok (.ireturn, 1) := by decide +kernel
theorem dX8_knownOn_0 : decode cX8_knownOn 0 = .ok (.bipush (-9), 2) := by decide +kernel
theorem dX8_knownOn_2 : decode cX8_knownOn 2 = .ok (.istore_n 3, 1) := by decide +kernel
theorem dX8_knownOn_3 : decode cX8_knownOn 3 = .ok (.iconst (-1), 1) := by decide +kernel
theorem dX8_knownOn_4 : decode cX8_knownOn 4 = .ok (.istore 4, 2) := by decide +kernel
theorem dX8_knownOn_6 : decode cX8_knownOn 6 = .ok (.iconst 0, 1) := by decide +kernel
theorem dX8_knownOn_7 : decode cX8_knownOn 7 = .ok (.istore 5, 2) := by decide +kernel
theorem dX8_knownOn_9 : decode cX8_knownOn 9 = .ok (.iload 5, 2) := by decide +kernel
theorem dX8_knownOn_11 : decode cX8_knownOn 11 = .ok (.aload_n 0, 1) := by decide +kernel
theorem dX8_knownOn_12 : decode cX8_knownOn 12 = .ok (.getfield 110, 3) := by decide +kernel
theorem dX8_knownOn_15 : decode cX8_knownOn 15 = .ok (.if_icmp .ge 93, 3) := by decide +kernel
theorem dX8_knownOn_18 : decode cX8_knownOn 18 = .ok (.aload_n 0, 1) := by decide +kernel
theorem dX8_knownOn_19 : decode cX8_knownOn 19 = .ok (.getfield 31, 3) := by decide +kernel
theorem dX8_knownOn_22 : decode cX8_knownOn 22 = .ok (.iconst 4, 1) := by decide +kernel
theorem dX8_knownOn_23 : decode cX8_knownOn 23 = .ok (.iload 5, 2) := by decide +kernel
theorem dX8_knownOn_25 : decode cX8_knownOn 25 = .ok (.imul, 1) := by decide +kernel
theorem dX8_knownOn_26 : decode cX8_knownOn 26 = .ok (.iaload, 1) := by decide +kernel
theorem dX8_knownOn_27 : decode cX8_knownOn 27 = .ok (.iload_n 1, 1) := by decide +kernel
theorem dX8_knownOn_28 : decode cX8_knownOn 28 = .ok (.if_icmp .ne 74, 3) := by decide +kernel
theorem dX8_knownOn_31 : decode cX8_knownOn 31 = .ok (.aload_n 0, 1) := by decide +kernel
theorem dX8_knownOn_32 : decode cX8_knownOn 32 = .ok (.getfield 31, 3) := by decide +kernel
theorem dX8_knownOn_35 : decode cX8_knownOn 35 = .ok (.iconst 4, 1) := by decide +kernel
theorem dX8_knownOn_36 : decode cX8_knownOn 36 = .ok (.iload 5, 2) := by decide +kernel
theorem dX8_knownOn_38 : decode cX8_knownOn 38 = .ok (.imul, 1) := by decide +kernel
theorem dX8_knownOn_39 : decode cX8_knownOn 39 = .ok (.iconst 3, 1) := by decide +kernel
theorem dX8_knownOn_40 : decode cX8_knownOn 40 = .ok (.iadd, 1) := by decide +kernel
theorem dX8_knownOn_41 : decode cX8_knownOn 41 = .ok (.iaload, 1) := by decide +kernel
theorem dX8_knownOn_42 : decode cX8_knownOn 42 = .ok (.iload_n 2, 1) := by decide +kernel
theorem dX8_knownOn_43 : decode cX8_knownOn 43 = .ok (.if_icmp .gt 59, 3) := by decide +kernel
theorem dX8_knownOn_46 : decode cX8_knownOn 46 = .ok (.aload_n 0, 1) := by decide +kernel
theorem dX8_knownOn_47 : decode cX8_knownOn 47 = .ok (.getfield 31, 3) := by decide +kernel
theorem dX8_knownOn_50 : decode cX8_knownOn 50 = .ok (.iconst 4, 1) := by decide +kernel
theorem dX8_knownOn_51 : decode cX8_knownOn 51 = .ok (.iload 5, 2) := by decide +kernel
theorem dX8_knownOn_53 : decode cX8_knownOn 53 = .ok (.imul, 1) := by decide +kernel
theorem dX8_knownOn_54 : decode cX8_knownOn 54 = .ok (.iconst 1, 1) := by decide +kernel
theorem dX8_knownOn_55 : decode cX8_knownOn 55 = .ok (.iadd, 1) := by decide +kernel
theorem dX8_knownOn_56 : decode cX8_knownOn 56 = .ok (.iaload, 1) := by decide +kernel
theorem dX8_knownOn_57 : decode cX8_knownOn 57 = .ok (.iload_n 2, 1) := by decide +kernel
theorem dX8_knownOn_58 : decode cX8_knownOn 58 = .ok (.if_icmp .gt 44, 3) := by decide +kernel
theorem dX8_knownOn_61 : decode cX8_knownOn 61 = .ok (.aload_n 0, 1) := by decide +kernel
theorem dX8_knownOn_62 : decode cX8_knownOn 62 = .ok (.getfield 31, 3) := by decide +kernel
theorem dX8_knownOn_65 : decode cX8_knownOn 65 = .ok (.iconst 4, 1) := by decide +kernel
theorem dX8_knownOn_66 : decode cX8_knownOn 66 = .ok (.iload 5, 2) := by decide +kernel
theorem dX8_knownOn_68 : decode cX8_knownOn 68 = .ok (.imul, 1) := by decide +kernel
theorem dX8_knownOn_69 : decode cX8_knownOn 69 = .ok (.iconst 1, 1) := by decide +kernel
theorem dX8_knownOn_70 : decode cX8_knownOn 70 = .ok (.iadd, 1) := by decide +kernel
theorem dX8_knownOn_71 : decode cX8_knownOn 71 = .ok (.iaload, 1) := by decide +kernel
theorem dX8_knownOn_72 : decode cX8_knownOn 72 = .ok (.iload 4, 2) := by decide +kernel
theorem dX8_knownOn_74 : decode cX8_knownOn 74 = .ok (.if_icmp .lt 28, 3) := by decide +kernel
theorem dX8_knownOn_77 : decode cX8_knownOn 77 = .ok (.aload_n 0, 1) := by decide +kernel
theorem dX8_knownOn_78 : decode cX8_knownOn 78 = .ok (.getfield 31, 3) := by decide +kernel
theorem dX8_knownOn_81 : decode cX8_knownOn 81 = .ok (.iconst 4, 1) := by decide +kernel
theorem dX8_knownOn_82 : decode cX8_knownOn 82 = .ok (.iload 5, 2) := by decide +kernel
theorem dX8_knownOn_84 : decode cX8_knownOn 84 = .ok (.imul, 1) := by decide +kernel
theorem dX8_knownOn_85 : decode cX8_knownOn 85 = .ok (.iconst 1, 1) := by decide +kernel
theorem dX8_knownOn_86 : decode cX8_knownOn 86 = .ok (.iadd, 1) := by decide +kernel
theorem dX8_knownOn_87 : decode cX8_knownOn 87 = .ok (.iaload, 1) := by decide +kernel
theorem dX8_knownOn_88 : decode cX8_knownOn 88 = .ok (.istore 4, 2) := by decide +kernel
theorem dX8_knownOn_90 : decode cX8_knownOn 90 = .ok (.aload_n 0, 1) := by decide +kernel
theorem dX8_knownOn_91 : decode cX8_knownOn 91 = .ok (.getfield 31, 3) := by decide +kernel
theorem dX8_knownOn_94 : decode cX8_knownOn 94 = .ok (.iconst 4, 1) := by decide +kernel
theorem dX8_knownOn_95 : decode cX8_knownOn 95 = .ok (.iload 5, 2) := by decide +kernel
theorem dX8_knownOn_97 : decode cX8_knownOn 97 = .ok (.imul, 1) := by decide +kernel
theorem dX8_knownOn_98 : decode cX8_knownOn 98 = .ok (.iconst 2, 1) := by decide +kernel
theorem dX8_knownOn_99 : decode cX8_knownOn 99 = .ok (.iadd, 1) := by decide +kernel
theorem dX8_knownOn_100 : decode cX8_knownOn 100 = .ok (.iaload, 1) := by decide +kernel
theorem dX8_knownOn_101 : decode cX8_knownOn 101 = .ok (.istore_n 3, 1) := by decide +kernel
theorem dX8_knownOn_102 : decode cX8_knownOn 102 = .ok (.iinc 5 1, 3) := by decide +kernel
theorem dX8_knownOn_105 : decode cX8_knownOn 105 = .ok (.goto (-96), 3) := by decide +kernel
theorem dX8_knownOn_108 : decode cX8_knownOn 108 = .ok (.iload_n 3, 1) := by decide +kernel
theorem dX8_knownOn_109 : decode cX8_knownOn 109 = .ok (.ireturn, 1) := by decide +kernel
theorem dX8_isForbidden_0 : decode cX8_isForbidden 0 = .ok (.aload_n 0, 1) := by decide +kernel
theorem dX8_isForbidden_1 : decode cX8_isForbidden 1 = .ok (.iload_n 1, 1) := by decide +kernel
theorem dX8_isForbidden_2 : decode cX8_isForbidden 2 = .ok (.bipush 10, 2) := by decide +kernel
theorem dX8_isForbidden_4 : decode cX8_isForbidden 4 = .ok (.invokevirtual 99, 3) := by decide +kernel
theorem dX8_isForbidden_7 : decode cX8_isForbidden 7 = .ok (.iconst 3, 1) := by decide +kernel
theorem dX8_isForbidden_8 : decode cX8_isForbidden 8 = .ok (.if_icmp .ge 15, 3) := by decide +kernel
theorem dX8_isForbidden_11 : decode cX8_isForbidden 11 = .ok (.aload_n 0, 1) := by decide +kernel
theorem dX8_isForbidden_12 : decode cX8_isForbidden 12 = .ok (.iload_n 1, 1) := by decide +kernel
theorem dX8_isForbidden_13 : decode cX8_isForbidden 13 = .ok (.aload_n 0, 1) := by decide +kernel
theorem dX8_isForbidden_14 : decode cX8_isForbidden 14 = .ok (.getfield 86, 3) := by decide +kernel
theorem dX8_isForbidden_17 : decode cX8_isForbidden 17 = .ok (.invokevirtual 113, 3) := by decide +kernel
theorem dX8_isForbidden_20 : decode cX8_isForbidden 20 = .ok (.ifCond .ne 7, 3) := by decide +kernel
theorem dX8_isForbidden_23 : decode cX8_isForbidden 23 = .ok (.iconst 1, 1) := by decide +kernel
theorem dX8_isForbidden_24 : decode cX8_isForbidden 24 = .ok (.goto 4, 3) := by decide +kernel
theorem dX8_isForbidden_27 : decode cX8_isForbidden 27 = .ok (.iconst 0, 1) := by decide +kernel
theorem dX8_isForbidden_28 : decode cX8_isForbidden 28 = .ok (.ireturn, 1) := by decide +kernel
theorem dX8_doer_0 : decode cX8_doer 0 = .ok (.aload_n 0, 1) := by decide +kernel
theorem dX8_doer_1 : decode cX8_doer 1 = .ok (.iload_n 1, 1) := by decide +kernel
theorem dX8_doer_2 : decode cX8_doer 2 = .ok (.bipush 7, 2) := by decide +kernel
theorem dX8_doer_4 : decode cX8_doer 4 = .ok (.invokevirtual 99, 3) := by decide +kernel
theorem dX8_doer_7 : decode cX8_doer 7 = .ok (.istore_n 2, 1) := by decide +kernel
theorem dX8_doer_8 : decode cX8_doer 8 = .ok (.aload_n 0, 1) := by decide +kernel
theorem dX8_doer_9 : decode cX8_doer 9 = .ok (.getfield 44, 3) := by decide +kernel
theorem dX8_doer_12 : decode cX8_doer 12 = .ok (.iload_n 2, 1) := by decide +kernel
theorem dX8_doer_13 : decode cX8_doer 13 = .ok (.baload, 1) := by decide +kernel
theorem dX8_doer_14 : decode cX8_doer 14 = .ok (.ifCond .ne 5, 3) := by decide +kernel
theorem dX8_doer_17 : decode cX8_doer 17 = .ok (.iload_n 2, 1) := by decide +kernel
theorem dX8_doer_18 : decode cX8_doer 18 = .ok (.ireturn, 1) := by decide +kernel
theorem dX8_doer_19 : decode cX8_doer 19 = .ok (.bipush (-9), 2) := by decide +kernel
theorem dX8_doer_21 : decode cX8_doer 21 = .ok (.istore_n 3, 1) := by decide +kernel
theorem dX8_doer_22 : decode cX8_doer 22 = .ok (.sipush 1000, 3) := by decide +kernel
theorem dX8_doer_25 : decode cX8_doer 25 = .ok (.istore 4, 2) := by decide +kernel
theorem dX8_doer_27 : decode cX8_doer 27 = .ok (.iconst 3, 1) := by decide +kernel
theorem dX8_doer_28 : decode cX8_doer 28 = .ok (.istore 5, 2) := by decide +kernel
theorem dX8_doer_30 : decode cX8_doer 30 = .ok (.iload 5, 2) := by decide +kernel
theorem dX8_doer_32 : decode cX8_doer 32 = .ok (.ifCond .lt 147, 3) := by decide +kernel
theorem dX8_doer_35 : decode cX8_doer 35 = .ok (.bipush 100, 2) := by decide +kernel
theorem dX8_doer_37 : decode cX8_doer 37 = .ok (.istore 6, 2) := by decide +kernel
theorem dX8_doer_39 : decode cX8_doer 39 = .ok (.iconst 0, 1) := by decide +kernel
theorem dX8_doer_40 : decode cX8_doer 40 = .ok (.istore 7, 2) := by decide +kernel
theorem dX8_doer_42 : decode cX8_doer 42 = .ok (.iload 7, 2) := by decide +kernel
theorem dX8_doer_44 : decode cX8_doer 44 = .ok (.aload_n 0, 1) := by decide +kernel
theorem dX8_doer_45 : decode cX8_doer 45 = .ok (.getfield 93, 3) := by decide +kernel
theorem dX8_doer_48 : decode cX8_doer 48 = .ok (.if_icmp .ge 101, 3) := by decide +kernel
theorem dX8_doer_51 : decode cX8_doer 51 = .ok (.aload_n 0, 1) := by decide +kernel
theorem dX8_doer_52 : decode cX8_doer 52 = .ok (.iload 7, 2) := by decide +kernel
theorem dX8_doer_54 : decode cX8_doer 54 = .ok (.iconst 5, 1) := by decide +kernel
theorem dX8_doer_55 : decode cX8_doer 55 = .ok (.invokevirtual 99, 3) := by decide +kernel
theorem dX8_doer_58 : decode cX8_doer 58 = .ok (.aload_n 0, 1) := by decide +kernel
theorem dX8_doer_59 : decode cX8_doer 59 = .ok (.iload_n 1, 1) := by decide +kernel
theorem dX8_doer_60 : decode cX8_doer 60 = .ok (.iconst 5, 1) := by decide +kernel
theorem dX8_doer_61 : decode cX8_doer 61 = .ok (.invokevirtual 99, 3) := by decide +kernel
theorem dX8_doer_64 : decode cX8_doer 64 = .ok (.isub, 1) := by decide +kernel
theorem dX8_doer_65 : decode cX8_doer 65 = .ok (.istore 8, 2) := by decide +kernel
theorem dX8_doer_67 : decode cX8_doer 67 = .ok (.aload_n 0, 1) := by decide +kernel
theorem dX8_doer_68 : decode cX8_doer 68 = .ok (.iload 7, 2) := by decide +kernel
theorem dX8_doer_70 : decode cX8_doer 70 = .ok (.bipush 6, 2) := by decide +kernel
theorem dX8_doer_72 : decode cX8_doer 72 = .ok (.invokevirtual 99, 3) := by decide +kernel
theorem dX8_doer_75 : decode cX8_doer 75 = .ok (.aload_n 0, 1) := by decide +kernel
theorem dX8_doer_76 : decode cX8_doer 76 = .ok (.iload_n 1, 1) := by decide +kernel
theorem dX8_doer_77 : decode cX8_doer 77 = .ok (.bipush 6, 2) := by decide +kernel
theorem dX8_doer_79 : decode cX8_doer 79 = .ok (.invokevirtual 99, 3) := by decide +kernel
theorem dX8_doer_82 : decode cX8_doer 82 = .ok (.isub, 1) := by decide +kernel
theorem dX8_doer_83 : decode cX8_doer 83 = .ok (.istore 9, 2) := by decide +kernel
theorem dX8_doer_85 : decode cX8_doer 85 = .ok (.iload 8, 2) := by decide +kernel
theorem dX8_doer_87 : decode cX8_doer 87 = .ok (.ifCond .ge 9, 3) := by decide +kernel
theorem dX8_doer_90 : decode cX8_doer 90 = .ok (.iload 8, 2) := by decide +kernel
theorem dX8_doer_92 : decode cX8_doer 92 = .ok (.ineg, 1) := by decide +kernel
theorem dX8_doer_93 : decode cX8_doer 93 = .ok (.goto 5, 3) := by decide +kernel
theorem dX8_doer_96 : decode cX8_doer 96 = .ok (.iload 8, 2) := by decide +kernel
theorem dX8_doer_98 : decode cX8_doer 98 = .ok (.iload 9, 2) := by decide +kernel
theorem dX8_doer_100 : decode cX8_doer 100 = .ok (.ifCond .ge 9, 3) := by decide +kernel
theorem dX8_doer_103 : decode cX8_doer 103 = .ok (.iload 9, 2) := by decide +kernel
theorem dX8_doer_105 : decode cX8_doer 105 = .ok (.ineg, 1) := by decide +kernel
theorem dX8_doer_106 : decode cX8_doer 106 = .ok (.goto 5, 3) := by decide +kernel
theorem dX8_doer_109 : decode cX8_doer 109 = .ok (.iload 9, 2) := by decide +kernel
theorem dX8_doer_111 : decode cX8_doer 111 = .ok (.iadd, 1) := by decide +kernel
theorem dX8_doer_112 : decode cX8_doer 112 = .ok (.istore 10, 2) := by decide +kernel
theorem dX8_doer_114 : decode cX8_doer 114 = .ok (.aload_n 0, 1) := by decide +kernel
theorem dX8_doer_115 : decode cX8_doer 115 = .ok (.iload 7, 2) := by decide +kernel
theorem dX8_doer_117 : decode cX8_doer 117 = .ok (.bipush 7, 2) := by decide +kernel
theorem dX8_doer_119 : decode cX8_doer 119 = .ok (.invokevirtual 99, 3) := by decide +kernel
theorem dX8_doer_122 : decode cX8_doer 122 = .ok (.iload 5, 2) := by decide +kernel
theorem dX8_doer_124 : decode cX8_doer 124 = .ok (.if_icmp .ne 15, 3) := by decide +kernel
theorem dX8_doer_127 : decode cX8_doer 127 = .ok (.iload 10, 2) := by decide +kernel
theorem dX8_doer_129 : decode cX8_doer 129 = .ok (.iload 6, 2) := by decide +kernel
theorem dX8_doer_131 : decode cX8_doer 131 = .ok (.if_icmp .ge 8, 3) := by decide +kernel
theorem dX8_doer_134 : decode cX8_doer 134 = .ok (.iload 10, 2) := by decide +kernel
theorem dX8_doer_136 : decode cX8_doer 136 = .ok (.goto 5, 3) := by decide +kernel
theorem dX8_doer_139 : decode cX8_doer 139 = .ok (.iload 6, 2) := by decide +kernel
theorem dX8_doer_141 : decode cX8_doer 141 = .ok (.istore 6, 2) := by decide +kernel
theorem dX8_doer_143 : decode cX8_doer 143 = .ok (.iinc 7 1, 3) := by decide +kernel
theorem dX8_doer_146 : decode cX8_doer 146 = .ok (.goto (-104), 3) := by decide +kernel
theorem dX8_doer_149 : decode cX8_doer 149 = .ok (.aload_n 0, 1) := by decide +kernel
theorem dX8_doer_150 : decode cX8_doer 150 = .ok (.getfield 44, 3) := by decide +kernel
theorem dX8_doer_153 : decode cX8_doer 153 = .ok (.iload 5, 2) := by decide +kernel
theorem dX8_doer_155 : decode cX8_doer 155 = .ok (.baload, 1) := by decide +kernel
theorem dX8_doer_156 : decode cX8_doer 156 = .ok (.ifCond .ne 17, 3) := by decide +kernel
theorem dX8_doer_159 : decode cX8_doer 159 = .ok (.iload 6, 2) := by decide +kernel
theorem dX8_doer_161 : decode cX8_doer 161 = .ok (.iload 4, 2) := by decide +kernel
theorem dX8_doer_163 : decode cX8_doer 163 = .ok (.if_icmp .gt 10, 3) := by decide +kernel
theorem dX8_doer_166 : decode cX8_doer 166 = .ok (.iload 6, 2) := by decide +kernel
theorem dX8_doer_168 : decode cX8_doer 168 = .ok (.istore 4, 2) := by decide +kernel
theorem dX8_doer_170 : decode cX8_doer 170 = .ok (.iload 5, 2) := by decide +kernel
theorem dX8_doer_172 : decode cX8_doer 172 = .ok (.istore_n 3, 1) := by decide +kernel
theorem dX8_doer_173 : decode cX8_doer 173 = .ok (.iinc 5 (-1), 3) := by decide +kernel
theorem dX8_doer_176 : decode cX8_doer 176 = .ok (.goto (-146), 3) := by decide +kernel
theorem dX8_doer_179 : decode cX8_doer 179 = .ok (.iload_n 3, 1) := by decide +kernel
theorem dX8_doer_180 : decode cX8_doer 180 = .ok (.ireturn, 1) := by decide +kernel
theorem dX8_about_0 : decode cX8_about 0 = .ok (.aload_n 0, 1) := by decide +kernel
theorem dX8_about_1 : decode cX8_about 1 = .ok (.iconst 0, 1) := by decide +kernel
theorem dX8_about_2 : decode cX8_about 2 = .ok (.putfield 57, 3) := by decide +kernel
theorem dX8_about_5 : decode cX8_about 5 = .ok (.aload_n 0, 1) := by decide +kernel
theorem dX8_about_6 : decode cX8_about 6 = .ok (.iload_n 1, 1) := by decide +kernel
theorem dX8_about_7 : decode cX8_about 7 = .ok (.invokevirtual 96, 3) := by decide +kernel
theorem dX8_about_10 : decode cX8_about 10 = .ok (.ifCond .eq 13, 3) := by decide +kernel
theorem dX8_about_13 : decode cX8_about 13 = .ok (.iload_n 2, 1) := by decide +kernel
theorem dX8_about_14 : decode cX8_about 14 = .ok (.iconst 0, 1) := by decide +kernel
theorem dX8_about_15 : decode cX8_about 15 = .ok (.bipush 7, 2) := by decide +kernel
theorem dX8_about_17 : decode cX8_about 17 = .ok (.invokestatic 60, 3) := by decide +kernel
theorem dX8_about_20 : decode cX8_about 20 = .ok (.ifCond .ne 5, 3) := by decide +kernel
theorem dX8_about_23 : decode cX8_about 23 = .ok (.iconst (-1), 1) := by decide +kernel
theorem dX8_about_24 : decode cX8_about 24 = .ok (.ireturn, 1) := by decide +kernel
theorem dX8_about_25 : decode cX8_about 25 = .ok (.iload_n 2, 1) := by decide +kernel
theorem dX8_about_26 : decode cX8_about 26 = .ok (.tableswitch 78 3 7 #[34, 42, 50, 58, 72], 34) := by decide +kernel
theorem dX8_about_60 : decode cX8_about 60 = .ok (.aload_n 0, 1) := by decide +kernel
theorem dX8_about_61 : decode cX8_about 61 = .ok (.iload_n 1, 1) := by decide +kernel
theorem dX8_about_62 : decode cX8_about 62 = .ok (.bipush 7, 2) := by decide +kernel
theorem dX8_about_64 : decode cX8_about 64 = .ok (.invokevirtual 99, 3) := by decide +kernel
theorem dX8_about_67 : decode cX8_about 67 = .ok (.ireturn, 1) := by decide +kernel
theorem dX8_about_68 : decode cX8_about 68 = .ok (.aload_n 0, 1) := by decide +kernel
theorem dX8_about_69 : decode cX8_about 69 = .ok (.iload_n 1, 1) := by decide +kernel
theorem dX8_about_70 : decode cX8_about 70 = .ok (.bipush 9, 2) := by decide +kernel
theorem dX8_about_72 : decode cX8_about 72 = .ok (.invokevirtual 99, 3) := by decide +kernel
theorem dX8_about_75 : decode cX8_about 75 = .ok (.ireturn, 1) := by decide +kernel
theorem dX8_about_76 : decode cX8_about 76 = .ok (.aload_n 0, 1) := by decide +kernel
theorem dX8_about_77 : decode cX8_about 77 = .ok (.iload_n 1, 1) := by decide +kernel
theorem dX8_about_78 : decode cX8_about 78 = .ok (.bipush 10, 2) := by decide +kernel
theorem dX8_about_80 : decode cX8_about 80 = .ok (.invokevirtual 99, 3) := by decide +kernel
theorem dX8_about_83 : decode cX8_about 83 = .ok (.ireturn, 1) := by decide +kernel
theorem dX8_about_84 : decode cX8_about 84 = .ok (.aload_n 0, 1) := by decide +kernel
theorem dX8_about_85 : decode cX8_about 85 = .ok (.iload_n 1, 1) := by decide +kernel
theorem dX8_about_86 : decode cX8_about 86 = .ok (.invokevirtual 116, 3) := by decide +kernel
theorem dX8_about_89 : decode cX8_about 89 = .ok (.ifCond .eq 7, 3) := by decide +kernel
theorem dX8_about_92 : decode cX8_about 92 = .ok (.iconst 1, 1) := by decide +kernel
theorem dX8_about_93 : decode cX8_about 93 = .ok (.goto 4, 3) := by decide +kernel
theorem dX8_about_96 : decode cX8_about 96 = .ok (.iconst 0, 1) := by decide +kernel
theorem dX8_about_97 : decode cX8_about 97 = .ok (.ireturn, 1) := by decide +kernel
theorem dX8_about_98 : decode cX8_about 98 = .ok (.aload_n 0, 1) := by decide +kernel
theorem dX8_about_99 : decode cX8_about 99 = .ok (.iload_n 1, 1) := by decide +kernel
theorem dX8_about_100 : decode cX8_about 100 = .ok (.invokevirtual 119, 3) := by decide +kernel
theorem dX8_about_103 : decode cX8_about 103 = .ok (.ireturn, 1) := by decide +kernel
theorem dX8_about_104 : decode cX8_about 104 = .ok (.aload_n 0, 1) := by decide +kernel
theorem dX8_about_105 : decode cX8_about 105 = .ok (.iload_n 1, 1) := by decide +kernel
theorem dX8_about_106 : decode cX8_about 106 = .ok (.iload_n 2, 1) := by decide +kernel
theorem dX8_about_107 : decode cX8_about 107 = .ok (.invokevirtual 99, 3) := by decide +kernel
theorem dX8_about_110 : decode cX8_about 110 = .ok (.ireturn, 1) := by decide +kernel
theorem dX8_due_0 : decode cX8_due 0 = .ok (.aload_n 0, 1) := by decide +kernel
theorem dX8_due_1 : decode cX8_due 1 = .ok (.iconst 0, 1) := by decide +kernel
theorem dX8_due_2 : decode cX8_due 2 = .ok (.putfield 57, 3) := by decide +kernel
end
section
theorem dX8_due_5 : decode cX8_due 5 = .ok (.aload_n 0, 1) := by decide +kernel
theorem dX8_due_6 : decode cX8_due 6 = .ok (.iload_n 1, 1) := by decide +kernel
theorem dX8_due_7 : decode cX8_due 7 = .ok (.invokevirtual 96, 3) := by decide +kernel
theorem dX8_due_10 : decode cX8_due 10 = .ok (.ifCond .eq 18, 3) := by decide +kernel
theorem dX8_due_13 : decode cX8_due 13 = .ok (.aload_n 0, 1) := by decide +kernel
theorem dX8_due_14 : decode cX8_due 14 = .ok (.iload_n 1, 1) := by decide +kernel
theorem dX8_due_15 : decode cX8_due 15 = .ok (.aload_n 0, 1) := by decide +kernel
theorem dX8_due_16 : decode cX8_due 16 = .ok (.iload_n 1, 1) := by decide +kernel
theorem dX8_due_17 : decode cX8_due 17 = .ok (.bipush 9, 2) := by decide +kernel
theorem dX8_due_19 : decode cX8_due 19 = .ok (.invokevirtual 99, 3) := by decide +kernel
theorem dX8_due_22 : decode cX8_due 22 = .ok (.invokevirtual 123, 3) := by decide +kernel
theorem dX8_due_25 : decode cX8_due 25 = .ok (.goto 4, 3) := by decide +kernel
theorem dX8_due_28 : decode cX8_due 28 = .ok (.iconst (-1), 1) := by decide +kernel
theorem dX8_due_29 : decode cX8_due 29 = .ok (.ireturn, 1) := by decide +kernel
theorem dX8_beyond_0 : decode cX8_beyond 0 = .ok (.aload_n 0, 1) := by decide +kernel
theorem dX8_beyond_1 : decode cX8_beyond 1 = .ok (.iconst 0, 1) := by decide +kernel
theorem dX8_beyond_2 : decode cX8_beyond 2 = .ok (.putfield 57, 3) := by decide +kernel
theorem dX8_beyond_5 : decode cX8_beyond 5 = .ok (.iconst 0, 1) := by decide +kernel
theorem dX8_beyond_6 : decode cX8_beyond 6 = .ok (.istore_n 1, 1) := by decide +kernel
theorem dX8_beyond_7 : decode cX8_beyond 7 = .ok (.iconst 0, 1) := by decide +kernel
theorem dX8_beyond_8 : decode cX8_beyond 8 = .ok (.istore_n 2, 1) := by decide +kernel
theorem dX8_beyond_9 : decode cX8_beyond 9 = .ok (.iload_n 2, 1) := by decide +kernel
theorem dX8_beyond_10 : decode cX8_beyond 10 = .ok (.aload_n 0, 1) := by decide +kernel
theorem dX8_beyond_11 : decode cX8_beyond 11 = .ok (.getfield 93, 3) := by decide +kernel
theorem dX8_beyond_14 : decode cX8_beyond 14 = .ok (.if_icmp .ge 44, 3) := by decide +kernel
theorem dX8_beyond_17 : decode cX8_beyond 17 = .ok (.iload_n 1, 1) := by decide +kernel
theorem dX8_beyond_18 : decode cX8_beyond 18 = .ok (.aload_n 0, 1) := by decide +kernel
theorem dX8_beyond_19 : decode cX8_beyond 19 = .ok (.iload_n 2, 1) := by decide +kernel
theorem dX8_beyond_20 : decode cX8_beyond 20 = .ok (.invokevirtual 116, 3) := by decide +kernel
theorem dX8_beyond_23 : decode cX8_beyond 23 = .ok (.ifCond .ne 26, 3) := by decide +kernel
theorem dX8_beyond_26 : decode cX8_beyond 26 = .ok (.aload_n 0, 1) := by decide +kernel
theorem dX8_beyond_27 : decode cX8_beyond 27 = .ok (.iload_n 2, 1) := by decide +kernel
theorem dX8_beyond_28 : decode cX8_beyond 28 = .ok (.aload_n 0, 1) := by decide +kernel
theorem dX8_beyond_29 : decode cX8_beyond 29 = .ok (.iload_n 2, 1) := by decide +kernel
theorem dX8_beyond_30 : decode cX8_beyond 30 = .ok (.bipush 9, 2) := by decide +kernel
theorem dX8_beyond_32 : decode cX8_beyond 32 = .ok (.invokevirtual 99, 3) := by decide +kernel
theorem dX8_beyond_35 : decode cX8_beyond 35 = .ok (.invokevirtual 123, 3) := by decide +kernel
theorem dX8_beyond_38 : decode cX8_beyond 38 = .ok (.aload_n 0, 1) := by decide +kernel
theorem dX8_beyond_39 : decode cX8_beyond 39 = .ok (.getfield 86, 3) := by decide +kernel
theorem dX8_beyond_42 : decode cX8_beyond 42 = .ok (.if_icmp .ge 7, 3) := by decide +kernel
theorem dX8_beyond_45 : decode cX8_beyond 45 = .ok (.iconst 1, 1) := by decide +kernel
theorem dX8_beyond_46 : decode cX8_beyond 46 = .ok (.goto 4, 3) := by decide +kernel
theorem dX8_beyond_49 : decode cX8_beyond 49 = .ok (.iconst 0, 1) := by decide +kernel
theorem dX8_beyond_50 : decode cX8_beyond 50 = .ok (.iadd, 1) := by decide +kernel
theorem dX8_beyond_51 : decode cX8_beyond 51 = .ok (.istore_n 1, 1) := by decide +kernel
theorem dX8_beyond_52 : decode cX8_beyond 52 = .ok (.iinc 2 1, 3) := by decide +kernel
theorem dX8_beyond_55 : decode cX8_beyond 55 = .ok (.goto (-46), 3) := by decide +kernel
theorem dX8_beyond_58 : decode cX8_beyond 58 = .ok (.iload_n 1, 1) := by decide +kernel
theorem dX8_beyond_59 : decode cX8_beyond 59 = .ok (.ireturn, 1) := by decide +kernel
theorem dX8_sweep_0 : decode cX8_sweep 0 = .ok (.aload_n 0, 1) := by decide +kernel
theorem dX8_sweep_1 : decode cX8_sweep 1 = .ok (.iconst 0, 1) := by decide +kernel
theorem dX8_sweep_2 : decode cX8_sweep 2 = .ok (.putfield 57, 3) := by decide +kernel
theorem dX8_sweep_5 : decode cX8_sweep 5 = .ok (.aload_n 0, 1) := by decide +kernel
theorem dX8_sweep_6 : decode cX8_sweep 6 = .ok (.iload_n 1, 1) := by decide +kernel
theorem dX8_sweep_7 : decode cX8_sweep 7 = .ok (.invokevirtual 96, 3) := by decide +kernel
theorem dX8_sweep_10 : decode cX8_sweep 10 = .ok (.ifCond .ne 5, 3) := by decide +kernel
theorem dX8_sweep_13 : decode cX8_sweep 13 = .ok (.iconst (-1), 1) := by decide +kernel
theorem dX8_sweep_14 : decode cX8_sweep 14 = .ok (.ireturn, 1) := by decide +kernel
theorem dX8_sweep_15 : decode cX8_sweep 15 = .ok (.aload_n 0, 1) := by decide +kernel
theorem dX8_sweep_16 : decode cX8_sweep 16 = .ok (.iload_n 1, 1) := by decide +kernel
theorem dX8_sweep_17 : decode cX8_sweep 17 = .ok (.invokevirtual 119, 3) := by decide +kernel
theorem dX8_sweep_20 : decode cX8_sweep 20 = .ok (.istore_n 2, 1) := by decide +kernel
theorem dX8_sweep_21 : decode cX8_sweep 21 = .ok (.aload_n 0, 1) := by decide +kernel
theorem dX8_sweep_22 : decode cX8_sweep 22 = .ok (.iload_n 1, 1) := by decide +kernel
theorem dX8_sweep_23 : decode cX8_sweep 23 = .ok (.invokevirtual 116, 3) := by decide +kernel
theorem dX8_sweep_26 : decode cX8_sweep 26 = .ok (.ifCond .ne 9, 3) := by decide +kernel
theorem dX8_sweep_29 : decode cX8_sweep 29 = .ok (.iload_n 2, 1) := by decide +kernel
theorem dX8_sweep_30 : decode cX8_sweep 30 = .ok (.bipush (-9), 2) := by decide +kernel
theorem dX8_sweep_32 : decode cX8_sweep 32 = .ok (.if_icmp .ne 6, 3) := by decide +kernel
theorem dX8_sweep_35 : decode cX8_sweep 35 = .ok (.bipush (-2), 2) := by decide +kernel
theorem dX8_sweep_37 : decode cX8_sweep 37 = .ok (.ireturn, 1) := by decide +kernel
theorem dX8_sweep_38 : decode cX8_sweep 38 = .ok (.aload_n 0, 1) := by decide +kernel
theorem dX8_sweep_39 : decode cX8_sweep 39 = .ok (.getfield 126, 3) := by decide +kernel
theorem dX8_sweep_42 : decode cX8_sweep 42 = .ok (.bipush 100, 2) := by decide +kernel
theorem dX8_sweep_44 : decode cX8_sweep 44 = .ok (.if_icmp .ne 6, 3) := by decide +kernel
theorem dX8_sweep_47 : decode cX8_sweep 47 = .ok (.bipush (-3), 2) := by decide +kernel
theorem dX8_sweep_49 : decode cX8_sweep 49 = .ok (.ireturn, 1) := by decide +kernel
theorem dX8_sweep_50 : decode cX8_sweep 50 = .ok (.aload_n 0, 1) := by decide +kernel
theorem dX8_sweep_51 : decode cX8_sweep 51 = .ok (.iload_n 1, 1) := by decide +kernel
theorem dX8_sweep_52 : decode cX8_sweep 52 = .ok (.iconst 2, 1) := by decide +kernel
theorem dX8_sweep_53 : decode cX8_sweep 53 = .ok (.invokevirtual 99, 3) := by decide +kernel
theorem dX8_sweep_56 : decode cX8_sweep 56 = .ok (.aload_n 0, 1) := by decide +kernel
theorem dX8_sweep_57 : decode cX8_sweep 57 = .ok (.getfield 40, 3) := by decide +kernel
theorem dX8_sweep_60 : decode cX8_sweep 60 = .ok (.imul, 1) := by decide +kernel
theorem dX8_sweep_61 : decode cX8_sweep 61 = .ok (.istore_n 3, 1) := by decide +kernel
theorem dX8_sweep_62 : decode cX8_sweep 62 = .ok (.aload_n 0, 1) := by decide +kernel
theorem dX8_sweep_63 : decode cX8_sweep 63 = .ok (.getfield 37, 3) := by decide +kernel
theorem dX8_sweep_66 : decode cX8_sweep 66 = .ok (.iconst 4, 1) := by decide +kernel
theorem dX8_sweep_67 : decode cX8_sweep 67 = .ok (.aload_n 0, 1) := by decide +kernel
theorem dX8_sweep_68 : decode cX8_sweep 68 = .ok (.getfield 126, 3) := by decide +kernel
theorem dX8_sweep_71 : decode cX8_sweep 71 = .ok (.imul, 1) := by decide +kernel
theorem dX8_sweep_72 : decode cX8_sweep 72 = .ok (.iload_n 1, 1) := by decide +kernel
theorem dX8_sweep_73 : decode cX8_sweep 73 = .ok (.iastore, 1) := by decide +kernel
theorem dX8_sweep_74 : decode cX8_sweep 74 = .ok (.aload_n 0, 1) := by decide +kernel
theorem dX8_sweep_75 : decode cX8_sweep 75 = .ok (.getfield 37, 3) := by decide +kernel
theorem dX8_sweep_78 : decode cX8_sweep 78 = .ok (.iconst 4, 1) := by decide +kernel
theorem dX8_sweep_79 : decode cX8_sweep 79 = .ok (.aload_n 0, 1) := by decide +kernel
theorem dX8_sweep_80 : decode cX8_sweep 80 = .ok (.getfield 126, 3) := by decide +kernel
theorem dX8_sweep_83 : decode cX8_sweep 83 = .ok (.imul, 1) := by decide +kernel
theorem dX8_sweep_84 : decode cX8_sweep 84 = .ok (.iconst 1, 1) := by decide +kernel
theorem dX8_sweep_85 : decode cX8_sweep 85 = .ok (.iadd, 1) := by decide +kernel
theorem dX8_sweep_86 : decode cX8_sweep 86 = .ok (.aload_n 0, 1) := by decide +kernel
theorem dX8_sweep_87 : decode cX8_sweep 87 = .ok (.getfield 86, 3) := by decide +kernel
theorem dX8_sweep_90 : decode cX8_sweep 90 = .ok (.iastore, 1) := by decide +kernel
theorem dX8_sweep_91 : decode cX8_sweep 91 = .ok (.aload_n 0, 1) := by decide +kernel
theorem dX8_sweep_92 : decode cX8_sweep 92 = .ok (.getfield 37, 3) := by decide +kernel
theorem dX8_sweep_95 : decode cX8_sweep 95 = .ok (.iconst 4, 1) := by decide +kernel
theorem dX8_sweep_96 : decode cX8_sweep 96 = .ok (.aload_n 0, 1) := by decide +kernel
theorem dX8_sweep_97 : decode cX8_sweep 97 = .ok (.getfield 126, 3) := by decide +kernel
theorem dX8_sweep_100 : decode cX8_sweep 100 = .ok (.imul, 1) := by decide +kernel
theorem dX8_sweep_101 : decode cX8_sweep 101 = .ok (.iconst 2, 1) := by decide +kernel
theorem dX8_sweep_102 : decode cX8_sweep 102 = .ok (.iadd, 1) := by decide +kernel
theorem dX8_sweep_103 : decode cX8_sweep 103 = .ok (.iload_n 2, 1) := by decide +kernel
theorem dX8_sweep_104 : decode cX8_sweep 104 = .ok (.iastore, 1) := by decide +kernel
theorem dX8_sweep_105 : decode cX8_sweep 105 = .ok (.aload_n 0, 1) := by decide +kernel
theorem dX8_sweep_106 : decode cX8_sweep 106 = .ok (.getfield 37, 3) := by decide +kernel
theorem dX8_sweep_109 : decode cX8_sweep 109 = .ok (.iconst 4, 1) := by decide +kernel
theorem dX8_sweep_110 : decode cX8_sweep 110 = .ok (.aload_n 0, 1) := by decide +kernel
theorem dX8_sweep_111 : decode cX8_sweep 111 = .ok (.getfield 126, 3) := by decide +kernel
theorem dX8_sweep_114 : decode cX8_sweep 114 = .ok (.imul, 1) := by decide +kernel
theorem dX8_sweep_115 : decode cX8_sweep 115 = .ok (.iconst 3, 1) := by decide +kernel
theorem dX8_sweep_116 : decode cX8_sweep 116 = .ok (.iadd, 1) := by decide +kernel
theorem dX8_sweep_117 : decode cX8_sweep 117 = .ok (.iload_n 3, 1) := by decide +kernel
theorem dX8_sweep_118 : decode cX8_sweep 118 = .ok (.iastore, 1) := by decide +kernel
theorem dX8_sweep_119 : decode cX8_sweep 119 = .ok (.aload_n 0, 1) := by decide +kernel
theorem dX8_sweep_120 : decode cX8_sweep 120 = .ok (.dup, 1) := by decide +kernel
theorem dX8_sweep_121 : decode cX8_sweep 121 = .ok (.getfield 126, 3) := by decide +kernel
theorem dX8_sweep_124 : decode cX8_sweep 124 = .ok (.iconst 1, 1) := by decide +kernel
theorem dX8_sweep_125 : decode cX8_sweep 125 = .ok (.iadd, 1) := by decide +kernel
theorem dX8_sweep_126 : decode cX8_sweep 126 = .ok (.putfield 126, 3) := by decide +kernel
theorem dX8_sweep_129 : decode cX8_sweep 129 = .ok (.aload_n 0, 1) := by decide +kernel
theorem dX8_sweep_130 : decode cX8_sweep 130 = .ok (.getfield 28, 3) := by decide +kernel
theorem dX8_sweep_133 : decode cX8_sweep 133 = .ok (.bipush 11, 2) := by decide +kernel
theorem dX8_sweep_135 : decode cX8_sweep 135 = .ok (.iload_n 1, 1) := by decide +kernel
theorem dX8_sweep_136 : decode cX8_sweep 136 = .ok (.imul, 1) := by decide +kernel
theorem dX8_sweep_137 : decode cX8_sweep 137 = .ok (.bipush 9, 2) := by decide +kernel
theorem dX8_sweep_139 : decode cX8_sweep 139 = .ok (.iadd, 1) := by decide +kernel
theorem dX8_sweep_140 : decode cX8_sweep 140 = .ok (.aload_n 0, 1) := by decide +kernel
theorem dX8_sweep_141 : decode cX8_sweep 141 = .ok (.getfield 86, 3) := by decide +kernel
theorem dX8_sweep_144 : decode cX8_sweep 144 = .ok (.iastore, 1) := by decide +kernel
theorem dX8_sweep_145 : decode cX8_sweep 145 = .ok (.aload_n 0, 1) := by decide +kernel
theorem dX8_sweep_146 : decode cX8_sweep 146 = .ok (.getfield 28, 3) := by decide +kernel
theorem dX8_sweep_149 : decode cX8_sweep 149 = .ok (.bipush 11, 2) := by decide +kernel
theorem dX8_sweep_151 : decode cX8_sweep 151 = .ok (.iload_n 1, 1) := by decide +kernel
theorem dX8_sweep_152 : decode cX8_sweep 152 = .ok (.imul, 1) := by decide +kernel
theorem dX8_sweep_153 : decode cX8_sweep 153 = .ok (.bipush 10, 2) := by decide +kernel
theorem dX8_sweep_155 : decode cX8_sweep 155 = .ok (.iadd, 1) := by decide +kernel
theorem dX8_sweep_156 : decode cX8_sweep 156 = .ok (.iconst 0, 1) := by decide +kernel
theorem dX8_sweep_157 : decode cX8_sweep 157 = .ok (.iastore, 1) := by decide +kernel
theorem dX8_sweep_158 : decode cX8_sweep 158 = .ok (.iload_n 3, 1) := by decide +kernel
theorem dX8_sweep_159 : decode cX8_sweep 159 = .ok (.ireturn, 1) := by decide +kernel
theorem dX8_refuse_0 : decode cX8_refuse 0 = .ok (.aload_n 0, 1) := by decide +kernel
theorem dX8_refuse_1 : decode cX8_refuse 1 = .ok (.iconst 0, 1) := by decide +kernel
theorem dX8_refuse_2 : decode cX8_refuse 2 = .ok (.putfield 57, 3) := by decide +kernel
theorem dX8_refuse_5 : decode cX8_refuse 5 = .ok (.aload_n 0, 1) := by decide +kernel
theorem dX8_refuse_6 : decode cX8_refuse 6 = .ok (.iload_n 1, 1) := by decide +kernel
theorem dX8_refuse_7 : decode cX8_refuse 7 = .ok (.invokevirtual 96, 3) := by decide +kernel
theorem dX8_refuse_10 : decode cX8_refuse 10 = .ok (.ifCond .ne 5, 3) := by decide +kernel
theorem dX8_refuse_13 : decode cX8_refuse 13 = .ok (.iconst (-1), 1) := by decide +kernel
theorem dX8_refuse_14 : decode cX8_refuse 14 = .ok (.ireturn, 1) := by decide +kernel
theorem dX8_refuse_15 : decode cX8_refuse 15 = .ok (.aload_n 0, 1) := by decide +kernel
theorem dX8_refuse_16 : decode cX8_refuse 16 = .ok (.iload_n 1, 1) := by decide +kernel
theorem dX8_refuse_17 : decode cX8_refuse 17 = .ok (.invokevirtual 116, 3) := by decide +kernel
theorem dX8_refuse_20 : decode cX8_refuse 20 = .ok (.ifCond .eq 6, 3) := by decide +kernel
theorem dX8_refuse_23 : decode cX8_refuse 23 = .ok (.bipush (-2), 2) := by decide +kernel
theorem dX8_refuse_25 : decode cX8_refuse 25 = .ok (.ireturn, 1) := by decide +kernel
theorem dX8_refuse_26 : decode cX8_refuse 26 = .ok (.aload_n 0, 1) := by decide +kernel
theorem dX8_refuse_27 : decode cX8_refuse 27 = .ok (.getfield 28, 3) := by decide +kernel
theorem dX8_refuse_30 : decode cX8_refuse 30 = .ok (.bipush 11, 2) := by decide +kernel
theorem dX8_refuse_32 : decode cX8_refuse 32 = .ok (.iload_n 1, 1) := by decide +kernel
theorem dX8_refuse_33 : decode cX8_refuse 33 = .ok (.imul, 1) := by decide +kernel
theorem dX8_refuse_34 : decode cX8_refuse 34 = .ok (.bipush 10, 2) := by decide +kernel
theorem dX8_refuse_36 : decode cX8_refuse 36 = .ok (.iadd, 1) := by decide +kernel
theorem dX8_refuse_37 : decode cX8_refuse 37 = .ok (.dup2, 1) := by decide +kernel
theorem dX8_refuse_38 : decode cX8_refuse 38 = .ok (.iaload, 1) := by decide +kernel
theorem dX8_refuse_39 : decode cX8_refuse 39 = .ok (.iconst 1, 1) := by decide +kernel
theorem dX8_refuse_40 : decode cX8_refuse 40 = .ok (.iadd, 1) := by decide +kernel
theorem dX8_refuse_41 : decode cX8_refuse 41 = .ok (.iastore, 1) := by decide +kernel
theorem dX8_refuse_42 : decode cX8_refuse 42 = .ok (.aload_n 0, 1) := by decide +kernel
theorem dX8_refuse_43 : decode cX8_refuse 43 = .ok (.iload_n 1, 1) := by decide +kernel
theorem dX8_refuse_44 : decode cX8_refuse 44 = .ok (.bipush 10, 2) := by decide +kernel
theorem dX8_refuse_46 : decode cX8_refuse 46 = .ok (.invokevirtual 99, 3) := by decide +kernel
theorem dX8_refuse_49 : decode cX8_refuse 49 = .ok (.ireturn, 1) := by decide +kernel
theorem dX8_look_0 : decode cX8_look 0 = .ok (.aload_n 0, 1) := by decide +kernel
theorem dX8_look_1 : decode cX8_look 1 = .ok (.iconst 0, 1) := by decide +kernel
theorem dX8_look_2 : decode cX8_look 2 = .ok (.putfield 57, 3) := by decide +kernel
theorem dX8_look_5 : decode cX8_look 5 = .ok (.aload_n 0, 1) := by decide +kernel
theorem dX8_look_6 : decode cX8_look 6 = .ok (.iload_n 1, 1) := by decide +kernel
theorem dX8_look_7 : decode cX8_look 7 = .ok (.invokevirtual 96, 3) := by decide +kernel
theorem dX8_look_10 : decode cX8_look 10 = .ok (.ifCond .eq 15, 3) := by decide +kernel
theorem dX8_look_13 : decode cX8_look 13 = .ok (.iload_n 2, 1) := by decide +kernel
theorem dX8_look_14 : decode cX8_look 14 = .ok (.iconst 0, 1) := by decide +kernel
theorem dX8_look_15 : decode cX8_look 15 = .ok (.aload_n 0, 1) := by decide +kernel
theorem dX8_look_16 : decode cX8_look 16 = .ok (.getfield 86, 3) := by decide +kernel
theorem dX8_look_19 : decode cX8_look 19 = .ok (.invokestatic 60, 3) := by decide +kernel
theorem dX8_look_22 : decode cX8_look 22 = .ok (.ifCond .ne 5, 3) := by decide +kernel
theorem dX8_look_25 : decode cX8_look 25 = .ok (.iconst (-1), 1) := by decide +kernel
theorem dX8_look_26 : decode cX8_look 26 = .ok (.ireturn, 1) := by decide +kernel
theorem dX8_look_27 : decode cX8_look 27 = .ok (.aload_n 0, 1) := by decide +kernel
theorem dX8_look_28 : decode cX8_look 28 = .ok (.iload_n 1, 1) := by decide +kernel
theorem dX8_look_29 : decode cX8_look 29 = .ok (.bipush 8, 2) := by decide +kernel
theorem dX8_look_31 : decode cX8_look 31 = .ok (.invokevirtual 99, 3) := by decide +kernel
theorem dX8_look_34 : decode cX8_look 34 = .ok (.iload_n 2, 1) := by decide +kernel
theorem dX8_look_35 : decode cX8_look 35 = .ok (.if_icmp .le 6, 3) := by decide +kernel
theorem dX8_look_38 : decode cX8_look 38 = .ok (.bipush (-2), 2) := by decide +kernel
theorem dX8_look_40 : decode cX8_look 40 = .ok (.ireturn, 1) := by decide +kernel
theorem dX8_look_41 : decode cX8_look 41 = .ok (.aload_n 0, 1) := by decide +kernel
theorem dX8_look_42 : decode cX8_look 42 = .ok (.getfield 110, 3) := by decide +kernel
theorem dX8_look_45 : decode cX8_look 45 = .ok (.bipush 30, 2) := by decide +kernel
theorem dX8_look_47 : decode cX8_look 47 = .ok (.if_icmp .ne 6, 3) := by decide +kernel
theorem dX8_look_50 : decode cX8_look 50 = .ok (.bipush (-3), 2) := by decide +kernel
theorem dX8_look_52 : decode cX8_look 52 = .ok (.ireturn, 1) := by decide +kernel
theorem dX8_look_53 : decode cX8_look 53 = .ok (.aload_n 0, 1) := by decide +kernel
theorem dX8_look_54 : decode cX8_look 54 = .ok (.getfield 31, 3) := by decide +kernel
theorem dX8_look_57 : decode cX8_look 57 = .ok (.iconst 4, 1) := by decide +kernel
theorem dX8_look_58 : decode cX8_look 58 = .ok (.aload_n 0, 1) := by decide +kernel
theorem dX8_look_59 : decode cX8_look 59 = .ok (.getfield 110, 3) := by decide +kernel
theorem dX8_look_62 : decode cX8_look 62 = .ok (.imul, 1) := by decide +kernel
theorem dX8_look_63 : decode cX8_look 63 = .ok (.iload_n 1, 1) := by decide +kernel
theorem dX8_look_64 : decode cX8_look 64 = .ok (.iastore, 1) := by decide +kernel
theorem dX8_look_65 : decode cX8_look 65 = .ok (.aload_n 0, 1) := by decide +kernel
theorem dX8_look_66 : decode cX8_look 66 = .ok (.getfield 31, 3) := by decide +kernel
theorem dX8_look_69 : decode cX8_look 69 = .ok (.iconst 4, 1) := by decide +kernel
theorem dX8_look_70 : decode cX8_look 70 = .ok (.aload_n 0, 1) := by decide +kernel
theorem dX8_look_71 : decode cX8_look 71 = .ok (.getfield 110, 3) := by decide +kernel
theorem dX8_look_74 : decode cX8_look 74 = .ok (.imul, 1) := by decide +kernel
theorem dX8_look_75 : decode cX8_look 75 = .ok (.iconst 1, 1) := by decide +kernel
theorem dX8_look_76 : decode cX8_look 76 = .ok (.iadd, 1) := by decide +kernel
theorem dX8_look_77 : decode cX8_look 77 = .ok (.iload_n 2, 1) := by decide +kernel
theorem dX8_look_78 : decode cX8_look 78 = .ok (.iastore, 1) := by decide +kernel
theorem dX8_look_79 : decode cX8_look 79 = .ok (.aload_n 0, 1) := by decide +kernel
theorem dX8_look_80 : decode cX8_look 80 = .ok (.getfield 31, 3) := by decide +kernel
theorem dX8_look_83 : decode cX8_look 83 = .ok (.iconst 4, 1) := by decide +kernel
theorem dX8_look_84 : decode cX8_look 84 = .ok (.aload_n 0, 1) := by decide +kernel
theorem dX8_look_85 : decode cX8_look 85 = .ok (.getfield 110, 3) := by decide +kernel
theorem dX8_look_88 : decode cX8_look 88 = .ok (.imul, 1) := by decide +kernel
theorem dX8_look_89 : decode cX8_look 89 = .ok (.iconst 2, 1) := by decide +kernel
theorem dX8_look_90 : decode cX8_look 90 = .ok (.iadd, 1) := by decide +kernel
theorem dX8_look_91 : decode cX8_look 91 = .ok (.iload_n 3, 1) := by decide +kernel
theorem dX8_look_92 : decode cX8_look 92 = .ok (.ifCond .eq 7, 3) := by decide +kernel
theorem dX8_look_95 : decode cX8_look 95 = .ok (.iconst 1, 1) := by decide +kernel
theorem dX8_look_96 : decode cX8_look 96 = .ok (.goto 4, 3) := by decide +kernel
theorem dX8_look_99 : decode cX8_look 99 = .ok (.iconst 0, 1) := by decide +kernel
theorem dX8_look_100 : decode cX8_look 100 = .ok (.iastore, 1) := by decide +kernel
theorem dX8_look_101 : decode cX8_look 101 = .ok (.aload_n 0, 1) := by decide +kernel
theorem dX8_look_102 : decode cX8_look 102 = .ok (.getfield 31, 3) := by decide +kernel
theorem dX8_look_105 : decode cX8_look 105 = .ok (.iconst 4, 1) := by decide +kernel
theorem dX8_look_106 : decode cX8_look 106 = .ok (.aload_n 0, 1) := by decide +kernel
theorem dX8_look_107 : decode cX8_look 107 = .ok (.getfield 110, 3) := by decide +kernel
theorem dX8_look_110 : decode cX8_look 110 = .ok (.imul, 1) := by decide +kernel
theorem dX8_look_111 : decode cX8_look 111 = .ok (.iconst 3, 1) := by decide +kernel
theorem dX8_look_112 : decode cX8_look 112 = .ok (.iadd, 1) := by decide +kernel
theorem dX8_look_113 : decode cX8_look 113 = .ok (.aload_n 0, 1) := by decide +kernel
theorem dX8_look_114 : decode cX8_look 114 = .ok (.getfield 86, 3) := by decide +kernel
theorem dX8_look_117 : decode cX8_look 117 = .ok (.iastore, 1) := by decide +kernel
theorem dX8_look_118 : decode cX8_look 118 = .ok (.aload_n 0, 1) := by decide +kernel
theorem dX8_look_119 : decode cX8_look 119 = .ok (.dup, 1) := by decide +kernel
theorem dX8_look_120 : decode cX8_look 120 = .ok (.getfield 110, 3) := by decide +kernel
theorem dX8_look_123 : decode cX8_look 123 = .ok (.iconst 1, 1) := by decide +kernel
theorem dX8_look_124 : decode cX8_look 124 = .ok (.iadd, 1) := by decide +kernel
theorem dX8_look_125 : decode cX8_look 125 = .ok (.putfield 110, 3) := by decide +kernel
theorem dX8_look_128 : decode cX8_look 128 = .ok (.aload_n 0, 1) := by decide +kernel
theorem dX8_look_129 : decode cX8_look 129 = .ok (.getfield 28, 3) := by decide +kernel
theorem dX8_look_132 : decode cX8_look 132 = .ok (.bipush 11, 2) := by decide +kernel
theorem dX8_look_134 : decode cX8_look 134 = .ok (.iload_n 1, 1) := by decide +kernel
theorem dX8_look_135 : decode cX8_look 135 = .ok (.imul, 1) := by decide +kernel
theorem dX8_look_136 : decode cX8_look 136 = .ok (.bipush 10, 2) := by decide +kernel
theorem dX8_look_138 : decode cX8_look 138 = .ok (.iadd, 1) := by decide +kernel
theorem dX8_look_139 : decode cX8_look 139 = .ok (.iload_n 3, 1) := by decide +kernel
theorem dX8_look_140 : decode cX8_look 140 = .ok (.ifCond .eq 7, 3) := by decide +kernel
theorem dX8_look_143 : decode cX8_look 143 = .ok (.iconst 0, 1) := by decide +kernel
theorem dX8_look_144 : decode cX8_look 144 = .ok (.goto 10, 3) := by decide +kernel
theorem dX8_look_147 : decode cX8_look 147 = .ok (.aload_n 0, 1) := by decide +kernel
theorem dX8_look_148 : decode cX8_look 148 = .ok (.iload_n 1, 1) := by decide +kernel
theorem dX8_look_149 : decode cX8_look 149 = .ok (.bipush 10, 2) := by decide +kernel
theorem dX8_look_151 : decode cX8_look 151 = .ok (.invokevirtual 99, 3) := by decide +kernel
theorem dX8_look_154 : decode cX8_look 154 = .ok (.iastore, 1) := by decide +kernel
theorem dX8_look_155 : decode cX8_look 155 = .ok (.aload_n 0, 1) := by decide +kernel
theorem dX8_look_156 : decode cX8_look 156 = .ok (.getfield 110, 3) := by decide +kernel
theorem dX8_look_159 : decode cX8_look 159 = .ok (.iconst 1, 1) := by decide +kernel
theorem dX8_look_160 : decode cX8_look 160 = .ok (.isub, 1) := by decide +kernel
theorem dX8_look_161 : decode cX8_look 161 = .ok (.ireturn, 1) := by decide +kernel
theorem dX8_known_0 : decode cX8_known 0 = .ok (.aload_n 0, 1) := by decide +kernel
theorem dX8_known_1 : decode cX8_known 1 = .ok (.iconst 0, 1) := by decide +kernel
theorem dX8_known_2 : decode cX8_known 2 = .ok (.putfield 57, 3) := by decide +kernel
theorem dX8_known_5 : decode cX8_known 5 = .ok (.aload_n 0, 1) := by decide +kernel
theorem dX8_known_6 : decode cX8_known 6 = .ok (.iload_n 1, 1) := by decide +kernel
theorem dX8_known_7 : decode cX8_known 7 = .ok (.invokevirtual 96, 3) := by decide +kernel
theorem dX8_known_10 : decode cX8_known 10 = .ok (.ifCond .eq 24, 3) := by decide +kernel
theorem dX8_known_13 : decode cX8_known 13 = .ok (.iload_n 2, 1) := by decide +kernel
theorem dX8_known_14 : decode cX8_known 14 = .ok (.iconst 0, 1) := by decide +kernel
theorem dX8_known_15 : decode cX8_known 15 = .ok (.aload_n 0, 1) := by decide +kernel
theorem dX8_known_16 : decode cX8_known 16 = .ok (.getfield 86, 3) := by decide +kernel
theorem dX8_known_19 : decode cX8_known 19 = .ok (.invokestatic 60, 3) := by decide +kernel
theorem dX8_known_22 : decode cX8_known 22 = .ok (.ifCond .eq 12, 3) := by decide +kernel
theorem dX8_known_25 : decode cX8_known 25 = .ok (.aload_n 0, 1) := by decide +kernel
theorem dX8_known_26 : decode cX8_known 26 = .ok (.iload_n 1, 1) := by decide +kernel
theorem dX8_known_27 : decode cX8_known 27 = .ok (.iload_n 2, 1) := by decide +kernel
theorem dX8_known_28 : decode cX8_known 28 = .ok (.invokevirtual 113, 3) := by decide +kernel
theorem dX8_known_31 : decode cX8_known 31 = .ok (.goto 4, 3) := by decide +kernel
theorem dX8_known_34 : decode cX8_known 34 = .ok (.iconst (-1), 1) := by decide +kernel
theorem dX8_known_35 : decode cX8_known 35 = .ok (.ireturn, 1) := by decide +kernel
theorem dX8_fire_0 : decode cX8_fire 0 = .ok (.aload_n 0, 1) := by decide +kernel
theorem dX8_fire_1 : decode cX8_fire 1 = .ok (.iconst 0, 1) := by decide +kernel
theorem dX8_fire_2 : decode cX8_fire 2 = .ok (.putfield 57, 3) := by decide +kernel
theorem dX8_fire_5 : decode cX8_fire 5 = .ok (.aload_n 0, 1) := by decide +kernel
theorem dX8_fire_6 : decode cX8_fire 6 = .ok (.iload_n 1, 1) := by decide +kernel
theorem dX8_fire_7 : decode cX8_fire 7 = .ok (.invokevirtual 96, 3) := by decide +kernel
theorem dX8_fire_10 : decode cX8_fire 10 = .ok (.ifCond .eq 15, 3) := by decide +kernel
theorem dX8_fire_13 : decode cX8_fire 13 = .ok (.iload_n 2, 1) := by decide +kernel
theorem dX8_fire_14 : decode cX8_fire 14 = .ok (.iconst 0, 1) := by decide +kernel
theorem dX8_fire_15 : decode cX8_fire 15 = .ok (.aload_n 0, 1) := by decide +kernel
theorem dX8_fire_16 : decode cX8_fire 16 = .ok (.getfield 86, 3) := by decide +kernel
theorem dX8_fire_19 : decode cX8_fire 19 = .ok (.invokestatic 60, 3) := by decide +kernel
theorem dX8_fire_22 : decode cX8_fire 22 = .ok (.ifCond .ne 5, 3) := by decide +kernel
theorem dX8_fire_25 : decode cX8_fire 25 = .ok (.iconst (-1), 1) := by decide +kernel
theorem dX8_fire_26 : decode cX8_fire 26 = .ok (.ireturn, 1) := by decide +kernel
theorem dX8_fire_27 : decode cX8_fire 27 = .ok (.aload_n 0, 1) := by decide +kernel
theorem dX8_fire_28 : decode cX8_fire 28 = .ok (.iload_n 1, 1) := by decide +kernel
theorem dX8_fire_29 : decode cX8_fire 29 = .ok (.bipush 8, 2) := by decide +kernel
theorem dX8_fire_31 : decode cX8_fire 31 = .ok (.invokevirtual 99, 3) := by decide +kernel
theorem dX8_fire_34 : decode cX8_fire 34 = .ok (.iload_n 2, 1) := by decide +kernel
theorem dX8_fire_35 : decode cX8_fire 35 = .ok (.if_icmp .le 6, 3) := by decide +kernel
theorem dX8_fire_38 : decode cX8_fire 38 = .ok (.bipush (-2), 2) := by decide +kernel
theorem dX8_fire_40 : decode cX8_fire 40 = .ok (.ireturn, 1) := by decide +kernel
theorem dX8_fire_41 : decode cX8_fire 41 = .ok (.aload_n 0, 1) := by decide +kernel
theorem dX8_fire_42 : decode cX8_fire 42 = .ok (.getfield 129, 3) := by decide +kernel
theorem dX8_fire_45 : decode cX8_fire 45 = .ok (.bipush 10, 2) := by decide +kernel
theorem dX8_fire_47 : decode cX8_fire 47 = .ok (.if_icmp .ne 6, 3) := by decide +kernel
theorem dX8_fire_50 : decode cX8_fire 50 = .ok (.bipush (-3), 2) := by decide +kernel
theorem dX8_fire_52 : decode cX8_fire 52 = .ok (.ireturn, 1) := by decide +kernel
theorem dX8_fire_53 : decode cX8_fire 53 = .ok (.aload_n 0, 1) := by decide +kernel
theorem dX8_fire_54 : decode cX8_fire 54 = .ok (.getfield 34, 3) := by decide +kernel
theorem dX8_fire_57 : decode cX8_fire 57 = .ok (.iconst 2, 1) := by decide +kernel
theorem dX8_fire_58 : decode cX8_fire 58 = .ok (.aload_n 0, 1) := by decide +kernel
theorem dX8_fire_59 : decode cX8_fire 59 = .ok (.getfield 129, 3) := by decide +kernel
theorem dX8_fire_62 : decode cX8_fire 62 = .ok (.imul, 1) := by decide +kernel
theorem dX8_fire_63 : decode cX8_fire 63 = .ok (.iload_n 1, 1) := by decide +kernel
theorem dX8_fire_64 : decode cX8_fire 64 = .ok (.iastore, 1) := by decide +kernel
theorem dX8_fire_65 : decode cX8_fire 65 = .ok (.aload_n 0, 1) := by decide +kernel
theorem dX8_fire_66 : decode cX8_fire 66 = .ok (.getfield 34, 3) := by decide +kernel
theorem dX8_fire_69 : decode cX8_fire 69 = .ok (.iconst 2, 1) := by decide +kernel
theorem dX8_fire_70 : decode cX8_fire 70 = .ok (.aload_n 0, 1) := by decide +kernel
theorem dX8_fire_71 : decode cX8_fire 71 = .ok (.getfield 129, 3) := by decide +kernel
theorem dX8_fire_74 : decode cX8_fire 74 = .ok (.imul, 1) := by decide +kernel
theorem dX8_fire_75 : decode cX8_fire 75 = .ok (.iconst 1, 1) := by decide +kernel
theorem dX8_fire_76 : decode cX8_fire 76 = .ok (.iadd, 1) := by decide +kernel
theorem dX8_fire_77 : decode cX8_fire 77 = .ok (.iload_n 2, 1) := by decide +kernel
theorem dX8_fire_78 : decode cX8_fire 78 = .ok (.iastore, 1) := by decide +kernel
theorem dX8_fire_79 : decode cX8_fire 79 = .ok (.aload_n 0, 1) := by decide +kernel
theorem dX8_fire_80 : decode cX8_fire 80 = .ok (.dup, 1) := by decide +kernel
theorem dX8_fire_81 : decode cX8_fire 81 = .ok (.getfield 129, 3) := by decide +kernel
theorem dX8_fire_84 : decode cX8_fire 84 = .ok (.iconst 1, 1) := by decide +kernel
theorem dX8_fire_85 : decode cX8_fire 85 = .ok (.iadd, 1) := by decide +kernel
theorem dX8_fire_86 : decode cX8_fire 86 = .ok (.putfield 129, 3) := by decide +kernel
theorem dX8_fire_89 : decode cX8_fire 89 = .ok (.aload_n 0, 1) := by decide +kernel
theorem dX8_fire_90 : decode cX8_fire 90 = .ok (.getfield 129, 3) := by decide +kernel
theorem dX8_fire_93 : decode cX8_fire 93 = .ok (.iconst 1, 1) := by decide +kernel
theorem dX8_fire_94 : decode cX8_fire 94 = .ok (.isub, 1) := by decide +kernel
theorem dX8_fire_95 : decode cX8_fire 95 = .ok (.ireturn, 1) := by decide +kernel
theorem dX8_back_0 : decode cX8_back 0 = .ok (.aload_n 0, 1) := by decide +kernel
theorem dX8_back_1 : decode cX8_back 1 = .ok (.iconst 0, 1) := by decide +kernel
theorem dX8_back_2 : decode cX8_back 2 = .ok (.putfield 57, 3) := by decide +kernel
theorem dX8_back_5 : decode cX8_back 5 = .ok (.iload_n 1, 1) := by decide +kernel
theorem dX8_back_6 : decode cX8_back 6 = .ok (.iconst 0, 1) := by decide +kernel
theorem dX8_back_7 : decode cX8_back 7 = .ok (.aload_n 0, 1) := by decide +kernel
theorem dX8_back_8 : decode cX8_back 8 = .ok (.getfield 129, 3) := by decide +kernel
theorem dX8_back_11 : decode cX8_back 11 = .ok (.iconst 1, 1) := by decide +kernel
theorem dX8_back_12 : decode cX8_back 12 = .ok (.isub, 1) := by decide +kernel
theorem dX8_back_13 : decode cX8_back 13 = .ok (.invokestatic 60, 3) := by decide +kernel
theorem dX8_back_16 : decode cX8_back 16 = .ok (.ifCond .eq 12, 3) := by decide +kernel
theorem dX8_back_19 : decode cX8_back 19 = .ok (.iload_n 2, 1) := by decide +kernel
theorem dX8_back_20 : decode cX8_back 20 = .ok (.iconst 0, 1) := by decide +kernel
theorem dX8_back_21 : decode cX8_back 21 = .ok (.iconst 5, 1) := by decide +kernel
theorem dX8_back_22 : decode cX8_back 22 = .ok (.invokestatic 60, 3) := by decide +kernel
theorem dX8_back_25 : decode cX8_back 25 = .ok (.ifCond .ne 5, 3) := by decide +kernel
theorem dX8_back_28 : decode cX8_back 28 = .ok (.iconst (-1), 1) := by decide +kernel
theorem dX8_back_29 : decode cX8_back 29 = .ok (.ireturn, 1) := by decide +kernel
theorem dX8_back_30 : decode cX8_back 30 = .ok (.aload_n 0, 1) := by decide +kernel
theorem dX8_back_31 : decode cX8_back 31 = .ok (.getfield 34, 3) := by decide +kernel
theorem dX8_back_34 : decode cX8_back 34 = .ok (.iconst 2, 1) := by decide +kernel
theorem dX8_back_35 : decode cX8_back 35 = .ok (.iload_n 1, 1) := by decide +kernel
theorem dX8_back_36 : decode cX8_back 36 = .ok (.imul, 1) := by decide +kernel
theorem dX8_back_37 : decode cX8_back 37 = .ok (.iaload, 1) := by decide +kernel
theorem dX8_back_38 : decode cX8_back 38 = .ok (.istore_n 3, 1) := by decide +kernel
theorem dX8_back_39 : decode cX8_back 39 = .ok (.aload_n 0, 1) := by decide +kernel
theorem dX8_back_40 : decode cX8_back 40 = .ok (.getfield 34, 3) := by decide +kernel
theorem dX8_back_43 : decode cX8_back 43 = .ok (.iconst 2, 1) := by decide +kernel
theorem dX8_back_44 : decode cX8_back 44 = .ok (.iload_n 1, 1) := by decide +kernel
theorem dX8_back_45 : decode cX8_back 45 = .ok (.imul, 1) := by decide +kernel
theorem dX8_back_46 : decode cX8_back 46 = .ok (.iconst 1, 1) := by decide +kernel
theorem dX8_back_47 : decode cX8_back 47 = .ok (.iadd, 1) := by decide +kernel
theorem dX8_back_48 : decode cX8_back 48 = .ok (.iaload, 1) := by decide +kernel
theorem dX8_back_49 : decode cX8_back 49 = .ok (.istore 4, 2) := by decide +kernel
theorem dX8_back_51 : decode cX8_back 51 = .ok (.aload_n 0, 1) := by decide +kernel
theorem dX8_back_52 : decode cX8_back 52 = .ok (.iload_n 3, 1) := by decide +kernel
theorem dX8_back_53 : decode cX8_back 53 = .ok (.bipush 8, 2) := by decide +kernel
theorem dX8_back_55 : decode cX8_back 55 = .ok (.invokevirtual 99, 3) := by decide +kernel
theorem dX8_back_58 : decode cX8_back 58 = .ok (.istore 5, 2) := by decide +kernel
theorem dX8_back_60 : decode cX8_back 60 = .ok (.bipush (-9), 2) := by decide +kernel
theorem dX8_back_62 : decode cX8_back 62 = .ok (.istore 6, 2) := by decide +kernel
theorem dX8_back_64 : decode cX8_back 64 = .ok (.iconst 0, 1) := by decide +kernel
theorem dX8_back_65 : decode cX8_back 65 = .ok (.istore 7, 2) := by decide +kernel
theorem dX8_back_67 : decode cX8_back 67 = .ok (.iload 7, 2) := by decide +kernel
theorem dX8_back_69 : decode cX8_back 69 = .ok (.aload_n 0, 1) := by decide +kernel
theorem dX8_back_70 : decode cX8_back 70 = .ok (.getfield 126, 3) := by decide +kernel
theorem dX8_back_73 : decode cX8_back 73 = .ok (.if_icmp .ge 64, 3) := by decide +kernel
theorem dX8_back_76 : decode cX8_back 76 = .ok (.aload_n 0, 1) := by decide +kernel
theorem dX8_back_77 : decode cX8_back 77 = .ok (.getfield 37, 3) := by decide +kernel
theorem dX8_back_80 : decode cX8_back 80 = .ok (.iconst 4, 1) := by decide +kernel
theorem dX8_back_81 : decode cX8_back 81 = .ok (.iload 7, 2) := by decide +kernel
theorem dX8_back_83 : decode cX8_back 83 = .ok (.imul, 1) := by decide +kernel
theorem dX8_back_84 : decode cX8_back 84 = .ok (.iaload, 1) := by decide +kernel
theorem dX8_back_85 : decode cX8_back 85 = .ok (.iload_n 3, 1) := by decide +kernel
theorem dX8_back_86 : decode cX8_back 86 = .ok (.if_icmp .ne 45, 3) := by decide +kernel
theorem dX8_back_89 : decode cX8_back 89 = .ok (.aload_n 0, 1) := by decide +kernel
theorem dX8_back_90 : decode cX8_back 90 = .ok (.getfield 37, 3) := by decide +kernel
theorem dX8_back_93 : decode cX8_back 93 = .ok (.iconst 4, 1) := by decide +kernel
theorem dX8_back_94 : decode cX8_back 94 = .ok (.iload 7, 2) := by decide +kernel
theorem dX8_back_96 : decode cX8_back 96 = .ok (.imul, 1) := by decide +kernel
theorem dX8_back_97 : decode cX8_back 97 = .ok (.iconst 1, 1) := by decide +kernel
theorem dX8_back_98 : decode cX8_back 98 = .ok (.iadd, 1) := by decide +kernel
theorem dX8_back_99 : decode cX8_back 99 = .ok (.iaload, 1) := by decide +kernel
theorem dX8_back_100 : decode cX8_back 100 = .ok (.iload 4, 2) := by decide +kernel
theorem dX8_back_102 : decode cX8_back 102 = .ok (.if_icmp .gt 29, 3) := by decide +kernel
theorem dX8_back_105 : decode cX8_back 105 = .ok (.aload_n 0, 1) := by decide +kernel
theorem dX8_back_106 : decode cX8_back 106 = .ok (.getfield 37, 3) := by decide +kernel
theorem dX8_back_109 : decode cX8_back 109 = .ok (.iconst 4, 1) := by decide +kernel
theorem dX8_back_110 : decode cX8_back 110 = .ok (.iload 7, 2) := by decide +kernel
theorem dX8_back_112 : decode cX8_back 112 = .ok (.imul, 1) := by decide +kernel
theorem dX8_back_113 : decode cX8_back 113 = .ok (.iconst 1, 1) := by decide +kernel
theorem dX8_back_114 : decode cX8_back 114 = .ok (.iadd, 1) := by decide +kernel
theorem dX8_back_115 : decode cX8_back 115 = .ok (.iaload, 1) := by decide +kernel
theorem dX8_back_116 : decode cX8_back 116 = .ok (.istore 5, 2) := by decide +kernel
theorem dX8_back_118 : decode cX8_back 118 = .ok (.aload_n 0, 1) := by decide +kernel
theorem dX8_back_119 : decode cX8_back 119 = .ok (.getfield 37, 3) := by decide +kernel
theorem dX8_back_122 : decode cX8_back 122 = .ok (.iconst 4, 1) := by decide +kernel
theorem dX8_back_123 : decode cX8_back 123 = .ok (.iload 7, 2) := by decide +kernel
theorem dX8_back_125 : decode cX8_back 125 = .ok (.imul, 1) := by decide +kernel
theorem dX8_back_126 : decode cX8_back 126 = .ok (.iconst 2, 1) := by decide +kernel
theorem dX8_back_127 : decode cX8_back 127 = .ok (.iadd, 1) := by decide +kernel
theorem dX8_back_128 : decode cX8_back 128 = .ok (.iaload, 1) := by decide +kernel
theorem dX8_back_129 : decode cX8_back 129 = .ok (.istore 6, 2) := by decide +kernel
theorem dX8_back_131 : decode cX8_back 131 = .ok (.iinc 7 1, 3) := by decide +kernel
theorem dX8_back_134 : decode cX8_back 134 = .ok (.goto (-67), 3) := by decide +kernel
theorem dX8_back_137 : decode cX8_back 137 = .ok (.iload_n 2, 1) := by decide +kernel
theorem dX8_back_138 : decode cX8_back 138 = .ok (.tableswitch 63 0 4 #[34, 36, 39, 42, 45], 34) := by decide +kernel
theorem dX8_back_172 : decode cX8_back 172 = .ok (.iload_n 3, 1) := by decide +kernel
theorem dX8_back_173 : decode cX8_back 173 = .ok (.ireturn, 1) := by decide +kernel
theorem dX8_back_174 : decode cX8_back 174 = .ok (.iload 4, 2) := by decide +kernel
theorem dX8_back_176 : decode cX8_back 176 = .ok (.ireturn, 1) := by decide +kernel
theorem dX8_back_177 : decode cX8_back 177 = .ok (.iload 5, 2) := by decide +kernel
theorem dX8_back_179 : decode cX8_back 179 = .ok (.ireturn, 1) := by decide +kernel
theorem dX8_back_180 : decode cX8_back 180 = .ok (.iload 6, 2) := by decide +kernel
theorem dX8_back_182 : decode cX8_back 182 = .ok (.ireturn, 1) := by decide +kernel
theorem dX8_back_183 : decode cX8_back 183 = .ok (.aload_n 0, 1) := by decide +kernel
theorem dX8_back_184 : decode cX8_back 184 = .ok (.iload_n 3, 1) := by decide +kernel
theorem dX8_back_185 : decode cX8_back 185 = .ok (.iload 5, 2) := by decide +kernel
theorem dX8_back_187 : decode cX8_back 187 = .ok (.invokevirtual 123, 3) := by decide +kernel
theorem dX8_back_190 : decode cX8_back 190 = .ok (.iload 4, 2) := by decide +kernel
theorem dX8_back_192 : decode cX8_back 192 = .ok (.if_icmp .ge 7, 3) := by decide +kernel
theorem dX8_back_195 : decode cX8_back 195 = .ok (.iconst 1, 1) := by decide +kernel
theorem dX8_back_196 : decode cX8_back 196 = .ok (.goto 4, 3) := by decide +kernel
theorem dX8_back_199 : decode cX8_back 199 = .ok (.iconst 0, 1) := by decide +kernel
theorem dX8_back_200 : decode cX8_back 200 = .ok (.ireturn, 1) := by decide +kernel
theorem dX8_back_201 : decode cX8_back 201 = .ok (.aload_n 0, 1) := by decide +kernel
theorem dX8_back_202 : decode cX8_back 202 = .ok (.iload_n 3, 1) := by decide +kernel
theorem dX8_back_203 : decode cX8_back 203 = .ok (.iload 4, 2) := by decide +kernel
theorem dX8_back_205 : decode cX8_back 205 = .ok (.invokevirtual 113, 3) := by decide +kernel
theorem dX8_back_208 : decode cX8_back 208 = .ok (.ireturn, 1) := by decide +kernel
theorem dX8_isHand_0 : decode cX8_isHand 0 = .ok (.iload_n 0, 1) := by decide +kernel
theorem dX8_isHand_1 : decode cX8_isHand 1 = .ok (.iconst 0, 1) := by decide +kernel
theorem dX8_isHand_2 : decode cX8_isHand 2 = .ok (.iconst 3, 1) := by decide +kernel
theorem dX8_isHand_3 : decode cX8_isHand 3 = .ok (.invokestatic 60, 3) := by decide +kernel
theorem dX8_isHand_6 : decode cX8_isHand 6 = .ok (.ireturn, 1) := by decide +kernel
theorem dX8_rate_0 : decode cX8_rate 0 = .ok (.aload_n 0, 1) := by decide +kernel
theorem dX8_rate_1 : decode cX8_rate 1 = .ok (.iconst 0, 1) := by decide +kernel
theorem dX8_rate_2 : decode cX8_rate 2 = .ok (.putfield 57, 3) := by decide +kernel
theorem dX8_rate_5 : decode cX8_rate 5 = .ok (.iload_n 1, 1) := by decide +kernel
theorem dX8_rate_6 : decode cX8_rate 6 = .ok (.iconst 1, 1) := by decide +kernel
theorem dX8_rate_7 : decode cX8_rate 7 = .ok (.bipush 9, 2) := by decide +kernel
theorem dX8_rate_9 : decode cX8_rate 9 = .ok (.invokestatic 60, 3) := by decide +kernel
theorem dX8_rate_12 : decode cX8_rate 12 = .ok (.ifCond .ne 5, 3) := by decide +kernel
theorem dX8_rate_15 : decode cX8_rate 15 = .ok (.iconst (-1), 1) := by decide +kernel
theorem dX8_rate_16 : decode cX8_rate 16 = .ok (.ireturn, 1) := by decide +kernel
theorem dX8_rate_17 : decode cX8_rate 17 = .ok (.aload_n 0, 1) := by decide +kernel
theorem dX8_rate_18 : decode cX8_rate 18 = .ok (.getfield 40, 3) := by decide +kernel
theorem dX8_rate_21 : decode cX8_rate 21 = .ok (.istore_n 2, 1) := by decide +kernel
theorem dX8_rate_22 : decode cX8_rate 22 = .ok (.aload_n 0, 1) := by decide +kernel
theorem dX8_rate_23 : decode cX8_rate 23 = .ok (.iload_n 1, 1) := by decide +kernel
theorem dX8_rate_24 : decode cX8_rate 24 = .ok (.putfield 40, 3) := by decide +kernel
theorem dX8_rate_27 : decode cX8_rate 27 = .ok (.iload_n 2, 1) := by decide +kernel
theorem dX8_rate_28 : decode cX8_rate 28 = .ok (.ireturn, 1) := by decide +kernel
theorem dX8_ill_0 : decode cX8_ill 0 = .ok (.aload_n 0, 1) := by decide +kernel
theorem dX8_ill_1 : decode cX8_ill 1 = .ok (.iconst 0, 1) := by decide +kernel
theorem dX8_ill_2 : decode cX8_ill 2 = .ok (.putfield 57, 3) := by decide +kernel
theorem dX8_ill_5 : decode cX8_ill 5 = .ok (.iload_n 1, 1) := by decide +kernel
theorem dX8_ill_6 : decode cX8_ill 6 = .ok (.invokestatic 132, 3) := by decide +kernel
theorem dX8_ill_9 : decode cX8_ill 9 = .ok (.ifCond .ne 5, 3) := by decide +kernel
theorem dX8_ill_12 : decode cX8_ill 12 = .ok (.iconst (-1), 1) := by decide +kernel
theorem dX8_ill_13 : decode cX8_ill 13 = .ok (.ireturn, 1) := by decide +kernel
theorem dX8_ill_14 : decode cX8_ill 14 = .ok (.aload_n 0, 1) := by decide +kernel
theorem dX8_ill_15 : decode cX8_ill 15 = .ok (.getfield 44, 3) := by decide +kernel
theorem dX8_ill_18 : decode cX8_ill 18 = .ok (.iload_n 1, 1) := by decide +kernel
theorem dX8_ill_19 : decode cX8_ill 19 = .ok (.baload, 1) := by decide +kernel
theorem dX8_ill_20 : decode cX8_ill 20 = .ok (.ifCond .eq 7, 3) := by decide +kernel
theorem dX8_ill_23 : decode cX8_ill 23 = .ok (.iconst 1, 1) := by decide +kernel
theorem dX8_ill_24 : decode cX8_ill 24 = .ok (.goto 4, 3) := by decide +kernel
theorem dX8_ill_27 : decode cX8_ill 27 = .ok (.iconst 0, 1) := by decide +kernel
theorem dX8_ill_28 : decode cX8_ill 28 = .ok (.istore_n 3, 1) := by decide +kernel
theorem dX8_ill_29 : decode cX8_ill 29 = .ok (.aload_n 0, 1) := by decide +kernel
theorem dX8_ill_30 : decode cX8_ill 30 = .ok (.getfield 44, 3) := by decide +kernel
theorem dX8_ill_33 : decode cX8_ill 33 = .ok (.iload_n 1, 1) := by decide +kernel
theorem dX8_ill_34 : decode cX8_ill 34 = .ok (.iload_n 2, 1) := by decide +kernel
theorem dX8_ill_35 : decode cX8_ill 35 = .ok (.bastore, 1) := by decide +kernel
theorem dX8_ill_36 : decode cX8_ill 36 = .ok (.iload_n 3, 1) := by decide +kernel
theorem dX8_ill_37 : decode cX8_ill 37 = .ok (.ireturn, 1) := by decide +kernel
theorem dX8_fees_0 : decode cX8_fees 0 = .ok (.aload_n 0, 1) := by decide +kernel
theorem dX8_fees_1 : decode cX8_fees 1 = .ok (.iconst 0, 1) := by decide +kernel
theorem dX8_fees_2 : decode cX8_fees 2 = .ok (.putfield 57, 3) := by decide +kernel
theorem dX8_fees_5 : decode cX8_fees 5 = .ok (.iload_n 1, 1) := by decide +kernel
theorem dX8_fees_6 : decode cX8_fees 6 = .ok (.invokestatic 132, 3) := by decide +kernel
theorem dX8_fees_9 : decode cX8_fees 9 = .ok (.ifCond .eq 12, 3) := by decide +kernel
theorem dX8_fees_12 : decode cX8_fees 12 = .ok (.iload_n 2, 1) := by decide +kernel
theorem dX8_fees_13 : decode cX8_fees 13 = .ok (.iconst 0, 1) := by decide +kernel
theorem dX8_fees_14 : decode cX8_fees 14 = .ok (.iconst 1, 1) := by decide +kernel
theorem dX8_fees_15 : decode cX8_fees 15 = .ok (.invokestatic 60, 3) := by decide +kernel
theorem dX8_fees_18 : decode cX8_fees 18 = .ok (.ifCond .ne 5, 3) := by decide +kernel
theorem dX8_fees_21 : decode cX8_fees 21 = .ok (.iconst (-1), 1) := by decide +kernel
theorem dX8_fees_22 : decode cX8_fees 22 = .ok (.ireturn, 1) := by decide +kernel
theorem dX8_fees_23 : decode cX8_fees 23 = .ok (.iconst 0, 1) := by decide +kernel
theorem dX8_fees_24 : decode cX8_fees 24 = .ok (.istore_n 3, 1) := by decide +kernel
theorem dX8_fees_25 : decode cX8_fees 25 = .ok (.iconst 0, 1) := by decide +kernel
theorem dX8_fees_26 : decode cX8_fees 26 = .ok (.istore 4, 2) := by decide +kernel
theorem dX8_fees_28 : decode cX8_fees 28 = .ok (.iload 4, 2) := by decide +kernel
theorem dX8_fees_30 : decode cX8_fees 30 = .ok (.aload_n 0, 1) := by decide +kernel
theorem dX8_fees_31 : decode cX8_fees 31 = .ok (.getfield 126, 3) := by decide +kernel
theorem dX8_fees_34 : decode cX8_fees 34 = .ok (.if_icmp .ge 50, 3) := by decide +kernel
theorem dX8_fees_37 : decode cX8_fees 37 = .ok (.iload_n 3, 1) := by decide +kernel
theorem dX8_fees_38 : decode cX8_fees 38 = .ok (.aload_n 0, 1) := by decide +kernel
theorem dX8_fees_39 : decode cX8_fees 39 = .ok (.getfield 37, 3) := by decide +kernel
theorem dX8_fees_42 : decode cX8_fees 42 = .ok (.iconst 4, 1) := by decide +kernel
theorem dX8_fees_43 : decode cX8_fees 43 = .ok (.iload 4, 2) := by decide +kernel
theorem dX8_fees_45 : decode cX8_fees 45 = .ok (.imul, 1) := by decide +kernel
theorem dX8_fees_46 : decode cX8_fees 46 = .ok (.iconst 2, 1) := by decide +kernel
theorem dX8_fees_47 : decode cX8_fees 47 = .ok (.iadd, 1) := by decide +kernel
theorem dX8_fees_48 : decode cX8_fees 48 = .ok (.iaload, 1) := by decide +kernel
theorem dX8_fees_49 : decode cX8_fees 49 = .ok (.iload_n 1, 1) := by decide +kernel
theorem dX8_fees_50 : decode cX8_fees 50 = .ok (.if_icmp .eq 7, 3) := by decide +kernel
theorem dX8_fees_53 : decode cX8_fees 53 = .ok (.iconst 0, 1) := by decide +kernel
theorem dX8_fees_54 : decode cX8_fees 54 = .ok (.goto 22, 3) := by decide +kernel
theorem dX8_fees_57 : decode cX8_fees 57 = .ok (.iload_n 2, 1) := by decide +kernel
theorem dX8_fees_58 : decode cX8_fees 58 = .ok (.ifCond .ne 17, 3) := by decide +kernel
theorem dX8_fees_61 : decode cX8_fees 61 = .ok (.aload_n 0, 1) := by decide +kernel
theorem dX8_fees_62 : decode cX8_fees 62 = .ok (.getfield 37, 3) := by decide +kernel
theorem dX8_fees_65 : decode cX8_fees 65 = .ok (.iconst 4, 1) := by decide +kernel
theorem dX8_fees_66 : decode cX8_fees 66 = .ok (.iload 4, 2) := by decide +kernel
theorem dX8_fees_68 : decode cX8_fees 68 = .ok (.imul, 1) := by decide +kernel
theorem dX8_fees_69 : decode cX8_fees 69 = .ok (.iconst 3, 1) := by decide +kernel
theorem dX8_fees_70 : decode cX8_fees 70 = .ok (.iadd, 1) := by decide +kernel
theorem dX8_fees_71 : decode cX8_fees 71 = .ok (.iaload, 1) := by decide +kernel
theorem dX8_fees_72 : decode cX8_fees 72 = .ok (.goto 4, 3) := by decide +kernel
theorem dX8_fees_75 : decode cX8_fees 75 = .ok (.iconst 1, 1) := by decide +kernel
theorem dX8_fees_76 : decode cX8_fees 76 = .ok (.iadd, 1) := by decide +kernel
theorem dX8_fees_77 : decode cX8_fees 77 = .ok (.istore_n 3, 1) := by decide +kernel
theorem dX8_fees_78 : decode cX8_fees 78 = .ok (.iinc 4 1, 3) := by decide +kernel
theorem dX8_fees_81 : decode cX8_fees 81 = .ok (.goto (-53), 3) := by decide +kernel
theorem dX8_fees_84 : decode cX8_fees 84 = .ok (.iload_n 3, 1) := by decide +kernel
theorem dX8_fees_85 : decode cX8_fees 85 = .ok (.ireturn, 1) := by decide +kernel
theorem dX8_wayOf_0 : decode cX8_wayOf 0 = .ok (.iconst 0, 1) := by decide +kernel
theorem dX8_wayOf_1 : decode cX8_wayOf 1 = .ok (.istore_n 2, 1) := by decide +kernel
theorem dX8_wayOf_2 : decode cX8_wayOf 2 = .ok (.iconst 0, 1) := by decide +kernel
theorem dX8_wayOf_3 : decode cX8_wayOf 3 = .ok (.istore_n 3, 1) := by decide +kernel
theorem dX8_wayOf_4 : decode cX8_wayOf 4 = .ok (.iconst 0, 1) := by decide +kernel
theorem dX8_wayOf_5 : decode cX8_wayOf 5 = .ok (.istore 4, 2) := by decide +kernel
theorem dX8_wayOf_7 : decode cX8_wayOf 7 = .ok (.iconst 0, 1) := by decide +kernel
theorem dX8_wayOf_8 : decode cX8_wayOf 8 = .ok (.istore 5, 2) := by decide +kernel
theorem dX8_wayOf_10 : decode cX8_wayOf 10 = .ok (.iload 5, 2) := by decide +kernel
theorem dX8_wayOf_12 : decode cX8_wayOf 12 = .ok (.iload_n 1, 1) := by decide +kernel
theorem dX8_wayOf_13 : decode cX8_wayOf 13 = .ok (.if_icmp .gt 118, 3) := by decide +kernel
theorem dX8_wayOf_16 : decode cX8_wayOf 16 = .ok (.iload 5, 2) := by decide +kernel
theorem dX8_wayOf_18 : decode cX8_wayOf 18 = .ok (.iload_n 1, 1) := by decide +kernel
theorem dX8_wayOf_19 : decode cX8_wayOf 19 = .ok (.if_icmp .ne 7, 3) := by decide +kernel
theorem dX8_wayOf_22 : decode cX8_wayOf 22 = .ok (.iconst 0, 1) := by decide +kernel
theorem dX8_wayOf_23 : decode cX8_wayOf 23 = .ok (.goto 20, 3) := by decide +kernel
theorem dX8_wayOf_26 : decode cX8_wayOf 26 = .ok (.aload_n 0, 1) := by decide +kernel
theorem dX8_wayOf_27 : decode cX8_wayOf 27 = .ok (.aload_n 0, 1) := by decide +kernel
theorem dX8_wayOf_28 : decode cX8_wayOf 28 = .ok (.getfield 51, 3) := by decide +kernel
theorem dX8_wayOf_31 : decode cX8_wayOf 31 = .ok (.aload_n 0, 1) := by decide +kernel
theorem dX8_wayOf_32 : decode cX8_wayOf 32 = .ok (.getfield 54, 3) := by decide +kernel
theorem dX8_wayOf_35 : decode cX8_wayOf 35 = .ok (.iload 5, 2) := by decide +kernel
theorem dX8_wayOf_37 : decode cX8_wayOf 37 = .ok (.iaload, 1) := by decide +kernel
theorem dX8_wayOf_38 : decode cX8_wayOf 38 = .ok (.iaload, 1) := by decide +kernel
theorem dX8_wayOf_39 : decode cX8_wayOf 39 = .ok (.iconst 5, 1) := by decide +kernel
theorem dX8_wayOf_40 : decode cX8_wayOf 40 = .ok (.invokevirtual 99, 3) := by decide +kernel
theorem dX8_wayOf_43 : decode cX8_wayOf 43 = .ok (.istore 6, 2) := by decide +kernel
theorem dX8_wayOf_45 : decode cX8_wayOf 45 = .ok (.iload 5, 2) := by decide +kernel
theorem dX8_wayOf_47 : decode cX8_wayOf 47 = .ok (.iload_n 1, 1) := by decide +kernel
theorem dX8_wayOf_48 : decode cX8_wayOf 48 = .ok (.if_icmp .ne 7, 3) := by decide +kernel
theorem dX8_wayOf_51 : decode cX8_wayOf 51 = .ok (.iconst 0, 1) := by decide +kernel
theorem dX8_wayOf_52 : decode cX8_wayOf 52 = .ok (.goto 21, 3) := by decide +kernel
theorem dX8_wayOf_55 : decode cX8_wayOf 55 = .ok (.aload_n 0, 1) := by decide +kernel
theorem dX8_wayOf_56 : decode cX8_wayOf 56 = .ok (.aload_n 0, 1) := by decide +kernel
theorem dX8_wayOf_57 : decode cX8_wayOf 57 = .ok (.getfield 51, 3) := by decide +kernel
theorem dX8_wayOf_60 : decode cX8_wayOf 60 = .ok (.aload_n 0, 1) := by decide +kernel
theorem dX8_wayOf_61 : decode cX8_wayOf 61 = .ok (.getfield 54, 3) := by decide +kernel
theorem dX8_wayOf_64 : decode cX8_wayOf 64 = .ok (.iload 5, 2) := by decide +kernel
theorem dX8_wayOf_66 : decode cX8_wayOf 66 = .ok (.iaload, 1) := by decide +kernel
theorem dX8_wayOf_67 : decode cX8_wayOf 67 = .ok (.iaload, 1) := by decide +kernel
theorem dX8_wayOf_68 : decode cX8_wayOf 68 = .ok (.bipush 6, 2) := by decide +kernel
theorem dX8_wayOf_70 : decode cX8_wayOf 70 = .ok (.invokevirtual 99, 3) := by decide +kernel
theorem dX8_wayOf_73 : decode cX8_wayOf 73 = .ok (.istore 7, 2) := by decide +kernel
theorem dX8_wayOf_75 : decode cX8_wayOf 75 = .ok (.iload 4, 2) := by decide +kernel
theorem dX8_wayOf_77 : decode cX8_wayOf 77 = .ok (.iload 6, 2) := by decide +kernel
theorem dX8_wayOf_79 : decode cX8_wayOf 79 = .ok (.iload_n 2, 1) := by decide +kernel
theorem dX8_wayOf_80 : decode cX8_wayOf 80 = .ok (.if_icmp .ge 10, 3) := by decide +kernel
theorem dX8_wayOf_83 : decode cX8_wayOf 83 = .ok (.iload_n 2, 1) := by decide +kernel
theorem dX8_wayOf_84 : decode cX8_wayOf 84 = .ok (.iload 6, 2) := by decide +kernel
theorem dX8_wayOf_86 : decode cX8_wayOf 86 = .ok (.isub, 1) := by decide +kernel
theorem dX8_wayOf_87 : decode cX8_wayOf 87 = .ok (.goto 7, 3) := by decide +kernel
theorem dX8_wayOf_90 : decode cX8_wayOf 90 = .ok (.iload 6, 2) := by decide +kernel
theorem dX8_wayOf_92 : decode cX8_wayOf 92 = .ok (.iload_n 2, 1) := by decide +kernel
theorem dX8_wayOf_93 : decode cX8_wayOf 93 = .ok (.isub, 1) := by decide +kernel
theorem dX8_wayOf_94 : decode cX8_wayOf 94 = .ok (.iadd, 1) := by decide +kernel
theorem dX8_wayOf_95 : decode cX8_wayOf 95 = .ok (.istore 4, 2) := by decide +kernel
theorem dX8_wayOf_97 : decode cX8_wayOf 97 = .ok (.iload 4, 2) := by decide +kernel
theorem dX8_wayOf_99 : decode cX8_wayOf 99 = .ok (.iload 7, 2) := by decide +kernel
theorem dX8_wayOf_101 : decode cX8_wayOf 101 = .ok (.iload_n 3, 1) := by decide +kernel
theorem dX8_wayOf_102 : decode cX8_wayOf 102 = .ok (.if_icmp .ge 10, 3) := by decide +kernel
theorem dX8_wayOf_105 : decode cX8_wayOf 105 = .ok (.iload_n 3, 1) := by decide +kernel
theorem dX8_wayOf_106 : decode cX8_wayOf 106 = .ok (.iload 7, 2) := by decide +kernel
theorem dX8_wayOf_108 : decode cX8_wayOf 108 = .ok (.isub, 1) := by decide +kernel
theorem dX8_wayOf_109 : decode cX8_wayOf 109 = .ok (.goto 7, 3) := by decide +kernel
theorem dX8_wayOf_112 : decode cX8_wayOf 112 = .ok (.iload 7, 2) := by decide +kernel
theorem dX8_wayOf_114 : decode cX8_wayOf 114 = .ok (.iload_n 3, 1) := by decide +kernel
theorem dX8_wayOf_115 : decode cX8_wayOf 115 = .ok (.isub, 1) := by decide +kernel
theorem dX8_wayOf_116 : decode cX8_wayOf 116 = .ok (.iadd, 1) := by decide +kernel
theorem dX8_wayOf_117 : decode cX8_wayOf 117 = .ok (.istore 4, 2) := by decide +kernel
theorem dX8_wayOf_119 : decode cX8_wayOf 119 = .ok (.iload 6, 2) := by decide +kernel
theorem dX8_wayOf_121 : decode cX8_wayOf 121 = .ok (.istore_n 2, 1) := by decide +kernel
theorem dX8_wayOf_122 : decode cX8_wayOf 122 = .ok (.iload 7, 2) := by decide +kernel
theorem dX8_wayOf_124 : decode cX8_wayOf 124 = .ok (.istore_n 3, 1) := by decide +kernel
theorem dX8_wayOf_125 : decode cX8_wayOf 125 = .ok (.iinc 5 1, 3) := by decide +kernel
theorem dX8_wayOf_128 : decode cX8_wayOf 128 = .ok (.goto (-118), 3) := by decide +kernel
theorem dX8_wayOf_131 : decode cX8_wayOf 131 = .ok (.iload 4, 2) := by decide +kernel
theorem dX8_wayOf_133 : decode cX8_wayOf 133 = .ok (.ireturn, 1) := by decide +kernel
theorem dX8_goesOn_0 : decode cX8_goesOn 0 = .ok (.iload_n 1, 1) := by decide +kernel
theorem dX8_goesOn_1 : decode cX8_goesOn 1 = .ok (.iconst 2, 1) := by decide +kernel
theorem dX8_goesOn_2 : decode cX8_goesOn 2 = .ok (.isub, 1) := by decide +kernel
theorem dX8_goesOn_3 : decode cX8_goesOn 3 = .ok (.istore_n 2, 1) := by decide +kernel
theorem dX8_goesOn_4 : decode cX8_goesOn 4 = .ok (.iload_n 2, 1) := by decide +kernel
theorem dX8_goesOn_5 : decode cX8_goesOn 5 = .ok (.ifCond .lt 26, 3) := by decide +kernel
theorem dX8_goesOn_8 : decode cX8_goesOn 8 = .ok (.aload_n 0, 1) := by decide +kernel
theorem dX8_goesOn_9 : decode cX8_goesOn 9 = .ok (.getfield 54, 3) := by decide +kernel
theorem dX8_goesOn_12 : decode cX8_goesOn 12 = .ok (.iload_n 2, 1) := by decide +kernel
theorem dX8_goesOn_13 : decode cX8_goesOn 13 = .ok (.iaload, 1) := by decide +kernel
theorem dX8_goesOn_14 : decode cX8_goesOn 14 = .ok (.aload_n 0, 1) := by decide +kernel
theorem dX8_goesOn_15 : decode cX8_goesOn 15 = .ok (.getfield 54, 3) := by decide +kernel
theorem dX8_goesOn_18 : decode cX8_goesOn 18 = .ok (.iload_n 2, 1) := by decide +kernel
theorem dX8_goesOn_19 : decode cX8_goesOn 19 = .ok (.iconst 1, 1) := by decide +kernel
theorem dX8_goesOn_20 : decode cX8_goesOn 20 = .ok (.iadd, 1) := by decide +kernel
theorem dX8_goesOn_21 : decode cX8_goesOn 21 = .ok (.iaload, 1) := by decide +kernel
theorem dX8_goesOn_22 : decode cX8_goesOn 22 = .ok (.if_icmp .le 9, 3) := by decide +kernel
theorem dX8_goesOn_25 : decode cX8_goesOn 25 = .ok (.iinc 2 (-1), 3) := by decide +kernel
theorem dX8_goesOn_28 : decode cX8_goesOn 28 = .ok (.goto (-24), 3) := by decide +kernel
theorem dX8_goesOn_31 : decode cX8_goesOn 31 = .ok (.iload_n 2, 1) := by decide +kernel
theorem dX8_goesOn_32 : decode cX8_goesOn 32 = .ok (.ifCond .ge 5, 3) := by decide +kernel
theorem dX8_goesOn_35 : decode cX8_goesOn 35 = .ok (.iconst 0, 1) := by decide +kernel
theorem dX8_goesOn_36 : decode cX8_goesOn 36 = .ok (.ireturn, 1) := by decide +kernel
theorem dX8_goesOn_37 : decode cX8_goesOn 37 = .ok (.iload_n 1, 1) := by decide +kernel
theorem dX8_goesOn_38 : decode cX8_goesOn 38 = .ok (.iconst 1, 1) := by decide +kernel
theorem dX8_goesOn_39 : decode cX8_goesOn 39 = .ok (.isub, 1) := by decide +kernel
theorem dX8_goesOn_40 : decode cX8_goesOn 40 = .ok (.istore_n 3, 1) := by decide +kernel
theorem dX8_goesOn_41 : decode cX8_goesOn 41 = .ok (.aload_n 0, 1) := by decide +kernel
theorem dX8_goesOn_42 : decode cX8_goesOn 42 = .ok (.getfield 54, 3) := by decide +kernel
theorem dX8_goesOn_45 : decode cX8_goesOn 45 = .ok (.iload_n 3, 1) := by decide +kernel
theorem dX8_goesOn_46 : decode cX8_goesOn 46 = .ok (.iaload, 1) := by decide +kernel
theorem dX8_goesOn_47 : decode cX8_goesOn 47 = .ok (.aload_n 0, 1) := by decide +kernel
theorem dX8_goesOn_48 : decode cX8_goesOn 48 = .ok (.getfield 54, 3) := by decide +kernel
theorem dX8_goesOn_51 : decode cX8_goesOn 51 = .ok (.iload_n 2, 1) := by decide +kernel
theorem dX8_goesOn_52 : decode cX8_goesOn 52 = .ok (.iaload, 1) := by decide +kernel
theorem dX8_goesOn_53 : decode cX8_goesOn 53 = .ok (.if_icmp .ge 9, 3) := by decide +kernel
theorem dX8_goesOn_56 : decode cX8_goesOn 56 = .ok (.iinc 3 (-1), 3) := by decide +kernel
theorem dX8_goesOn_59 : decode cX8_goesOn 59 = .ok (.goto (-18), 3) := by decide +kernel
theorem dX8_goesOn_62 : decode cX8_goesOn 62 = .ok (.aload_n 0, 1) := by decide +kernel
theorem dX8_goesOn_63 : decode cX8_goesOn 63 = .ok (.getfield 54, 3) := by decide +kernel
theorem dX8_goesOn_66 : decode cX8_goesOn 66 = .ok (.iload_n 2, 1) := by decide +kernel
theorem dX8_goesOn_67 : decode cX8_goesOn 67 = .ok (.iaload, 1) := by decide +kernel
theorem dX8_goesOn_68 : decode cX8_goesOn 68 = .ok (.istore 4, 2) := by decide +kernel
theorem dX8_goesOn_70 : decode cX8_goesOn 70 = .ok (.aload_n 0, 1) := by decide +kernel
theorem dX8_goesOn_71 : decode cX8_goesOn 71 = .ok (.getfield 54, 3) := by decide +kernel
theorem dX8_goesOn_74 : decode cX8_goesOn 74 = .ok (.iload_n 2, 1) := by decide +kernel
theorem dX8_goesOn_75 : decode cX8_goesOn 75 = .ok (.aload_n 0, 1) := by decide +kernel
theorem dX8_goesOn_76 : decode cX8_goesOn 76 = .ok (.getfield 54, 3) := by decide +kernel
theorem dX8_goesOn_79 : decode cX8_goesOn 79 = .ok (.iload_n 3, 1) := by decide +kernel
theorem dX8_goesOn_80 : decode cX8_goesOn 80 = .ok (.iaload, 1) := by decide +kernel
theorem dX8_goesOn_81 : decode cX8_goesOn 81 = .ok (.iastore, 1) := by decide +kernel
theorem dX8_goesOn_82 : decode cX8_goesOn 82 = .ok (.aload_n 0, 1) := by decide +kernel
theorem dX8_goesOn_83 : decode cX8_goesOn 83 = .ok (.getfield 54, 3) := by decide +kernel
theorem dX8_goesOn_86 : decode cX8_goesOn 86 = .ok (.iload_n 3, 1) := by decide +kernel
theorem dX8_goesOn_87 : decode cX8_goesOn 87 = .ok (.iload 4, 2) := by decide +kernel
theorem dX8_goesOn_89 : decode cX8_goesOn 89 = .ok (.iastore, 1) := by decide +kernel
theorem dX8_goesOn_90 : decode cX8_goesOn 90 = .ok (.iload_n 2, 1) := by decide +kernel
theorem dX8_goesOn_91 : decode cX8_goesOn 91 = .ok (.iconst 1, 1) := by decide +kernel
theorem dX8_goesOn_92 : decode cX8_goesOn 92 = .ok (.iadd, 1) := by decide +kernel
theorem dX8_goesOn_93 : decode cX8_goesOn 93 = .ok (.istore 5, 2) := by decide +kernel
theorem dX8_goesOn_95 : decode cX8_goesOn 95 = .ok (.iload_n 1, 1) := by decide +kernel
theorem dX8_goesOn_96 : decode cX8_goesOn 96 = .ok (.iconst 1, 1) := by decide +kernel
theorem dX8_goesOn_97 : decode cX8_goesOn 97 = .ok (.isub, 1) := by decide +kernel
theorem dX8_goesOn_98 : decode cX8_goesOn 98 = .ok (.istore 6, 2) := by decide +kernel
theorem dX8_goesOn_100 : decode cX8_goesOn 100 = .ok (.iload 5, 2) := by decide +kernel
theorem dX8_goesOn_102 : decode cX8_goesOn 102 = .ok (.iload 6, 2) := by decide +kernel
theorem dX8_goesOn_104 : decode cX8_goesOn 104 = .ok (.if_icmp .ge 44, 3) := by decide +kernel
theorem dX8_goesOn_107 : decode cX8_goesOn 107 = .ok (.aload_n 0, 1) := by decide +kernel
theorem dX8_goesOn_108 : decode cX8_goesOn 108 = .ok (.getfield 54, 3) := by decide +kernel
theorem dX8_goesOn_111 : decode cX8_goesOn 111 = .ok (.iload 5, 2) := by decide +kernel
theorem dX8_goesOn_113 : decode cX8_goesOn 113 = .ok (.iaload, 1) := by decide +kernel
theorem dX8_goesOn_114 : decode cX8_goesOn 114 = .ok (.istore 4, 2) := by decide +kernel
theorem dX8_goesOn_116 : decode cX8_goesOn 116 = .ok (.aload_n 0, 1) := by decide +kernel
theorem dX8_goesOn_117 : decode cX8_goesOn 117 = .ok (.getfield 54, 3) := by decide +kernel
theorem dX8_goesOn_120 : decode cX8_goesOn 120 = .ok (.iload 5, 2) := by decide +kernel
theorem dX8_goesOn_122 : decode cX8_goesOn 122 = .ok (.aload_n 0, 1) := by decide +kernel
theorem dX8_goesOn_123 : decode cX8_goesOn 123 = .ok (.getfield 54, 3) := by decide +kernel
theorem dX8_goesOn_126 : decode cX8_goesOn 126 = .ok (.iload 6, 2) := by decide +kernel
theorem dX8_goesOn_128 : decode cX8_goesOn 128 = .ok (.iaload, 1) := by decide +kernel
theorem dX8_goesOn_129 : decode cX8_goesOn 129 = .ok (.iastore, 1) := by decide +kernel
theorem dX8_goesOn_130 : decode cX8_goesOn 130 = .ok (.aload_n 0, 1) := by decide +kernel
theorem dX8_goesOn_131 : decode cX8_goesOn 131 = .ok (.getfield 54, 3) := by decide +kernel
theorem dX8_goesOn_134 : decode cX8_goesOn 134 = .ok (.iload 6, 2) := by decide +kernel
theorem dX8_goesOn_136 : decode cX8_goesOn 136 = .ok (.iload 4, 2) := by decide +kernel
theorem dX8_goesOn_138 : decode cX8_goesOn 138 = .ok (.iastore, 1) := by decide +kernel
theorem dX8_goesOn_139 : decode cX8_goesOn 139 = .ok (.iinc 5 1, 3) := by decide +kernel
theorem dX8_goesOn_142 : decode cX8_goesOn 142 = .ok (.iinc 6 (-1), 3) := by decide +kernel
theorem dX8_goesOn_145 : decode cX8_goesOn 145 = .ok (.goto (-45), 3) := by decide +kernel
theorem dX8_goesOn_148 : decode cX8_goesOn 148 = .ok (.iconst 1, 1) := by decide +kernel
theorem dX8_goesOn_149 : decode cX8_goesOn 149 = .ok (.ireturn, 1) := by decide +kernel
theorem dX8_round_0 : decode cX8_round 0 = .ok (.aload_n 0, 1) := by decide +kernel
theorem dX8_round_1 : decode cX8_round 1 = .ok (.iconst 0, 1) := by decide +kernel
theorem dX8_round_2 : decode cX8_round 2 = .ok (.putfield 57, 3) := by decide +kernel
theorem dX8_round_5 : decode cX8_round 5 = .ok (.iload_n 1, 1) := by decide +kernel
theorem dX8_round_6 : decode cX8_round 6 = .ok (.invokestatic 132, 3) := by decide +kernel
theorem dX8_round_9 : decode cX8_round 9 = .ok (.ifCond .eq 24, 3) := by decide +kernel
theorem dX8_round_12 : decode cX8_round 12 = .ok (.iload_n 2, 1) := by decide +kernel
theorem dX8_round_13 : decode cX8_round 13 = .ok (.iconst 1, 1) := by decide +kernel
theorem dX8_round_14 : decode cX8_round 14 = .ok (.bipush 6, 2) := by decide +kernel
theorem dX8_round_16 : decode cX8_round 16 = .ok (.invokestatic 60, 3) := by decide +kernel
theorem dX8_round_19 : decode cX8_round 19 = .ok (.ifCond .eq 14, 3) := by decide +kernel
theorem dX8_round_22 : decode cX8_round 22 = .ok (.iload_n 3, 1) := by decide +kernel
theorem dX8_round_23 : decode cX8_round 23 = .ok (.iconst 0, 1) := by decide +kernel
theorem dX8_round_24 : decode cX8_round 24 = .ok (.sipush 800, 3) := by decide +kernel
theorem dX8_round_27 : decode cX8_round 27 = .ok (.invokestatic 60, 3) := by decide +kernel
theorem dX8_round_30 : decode cX8_round 30 = .ok (.ifCond .ne 5, 3) := by decide +kernel
theorem dX8_round_33 : decode cX8_round 33 = .ok (.iconst (-1), 1) := by decide +kernel
theorem dX8_round_34 : decode cX8_round 34 = .ok (.ireturn, 1) := by decide +kernel
theorem dX8_round_35 : decode cX8_round 35 = .ok (.iconst 0, 1) := by decide +kernel
theorem dX8_round_36 : decode cX8_round 36 = .ok (.istore 4, 2) := by decide +kernel
theorem dX8_round_38 : decode cX8_round 38 = .ok (.iconst (-1), 1) := by decide +kernel
theorem dX8_round_39 : decode cX8_round 39 = .ok (.istore 5, 2) := by decide +kernel
theorem dX8_round_41 : decode cX8_round 41 = .ok (.iconst 0, 1) := by decide +kernel
theorem dX8_round_42 : decode cX8_round 42 = .ok (.istore 6, 2) := by decide +kernel
theorem dX8_round_44 : decode cX8_round 44 = .ok (.iload 6, 2) := by decide +kernel
theorem dX8_round_46 : decode cX8_round 46 = .ok (.iload_n 2, 1) := by decide +kernel
theorem dX8_round_47 : decode cX8_round 47 = .ok (.if_icmp .ge 181, 3) := by decide +kernel
theorem dX8_round_50 : decode cX8_round 50 = .ok (.bipush (-9), 2) := by decide +kernel
theorem dX8_round_52 : decode cX8_round 52 = .ok (.istore 7, 2) := by decide +kernel
theorem dX8_round_54 : decode cX8_round 54 = .ok (.iconst 0, 1) := by decide +kernel
theorem dX8_round_55 : decode cX8_round 55 = .ok (.istore 8, 2) := by decide +kernel
theorem dX8_round_57 : decode cX8_round 57 = .ok (.iconst 0, 1) := by decide +kernel
theorem dX8_round_58 : decode cX8_round 58 = .ok (.istore 9, 2) := by decide +kernel
theorem dX8_round_60 : decode cX8_round 60 = .ok (.iload 9, 2) := by decide +kernel
theorem dX8_round_62 : decode cX8_round 62 = .ok (.aload_n 0, 1) := by decide +kernel
theorem dX8_round_63 : decode cX8_round 63 = .ok (.getfield 93, 3) := by decide +kernel
theorem dX8_round_66 : decode cX8_round 66 = .ok (.if_icmp .ge 88, 3) := by decide +kernel
theorem dX8_round_69 : decode cX8_round 69 = .ok (.bipush 12, 2) := by decide +kernel
theorem dX8_round_71 : decode cX8_round 71 = .ok (.aload_n 0, 1) := by decide +kernel
theorem dX8_round_72 : decode cX8_round 72 = .ok (.iload 9, 2) := by decide +kernel
theorem dX8_round_74 : decode cX8_round 74 = .ok (.aload_n 0, 1) := by decide +kernel
theorem dX8_round_75 : decode cX8_round 75 = .ok (.iload 9, 2) := by decide +kernel
theorem dX8_round_77 : decode cX8_round 77 = .ok (.bipush 9, 2) := by decide +kernel
theorem dX8_round_79 : decode cX8_round 79 = .ok (.invokevirtual 99, 3) := by decide +kernel
theorem dX8_round_82 : decode cX8_round 82 = .ok (.invokevirtual 123, 3) := by decide +kernel
theorem dX8_round_85 : decode cX8_round 85 = .ok (.imul, 1) := by decide +kernel
theorem dX8_round_86 : decode cX8_round 86 = .ok (.iload 9, 2) := by decide +kernel
theorem dX8_round_88 : decode cX8_round 88 = .ok (.iadd, 1) := by decide +kernel
theorem dX8_round_89 : decode cX8_round 89 = .ok (.istore 10, 2) := by decide +kernel
theorem dX8_round_91 : decode cX8_round 91 = .ok (.iload 10, 2) := by decide +kernel
theorem dX8_round_93 : decode cX8_round 93 = .ok (.iload 5, 2) := by decide +kernel
theorem dX8_round_95 : decode cX8_round 95 = .ok (.if_icmp .le 53, 3) := by decide +kernel
theorem dX8_round_98 : decode cX8_round 98 = .ok (.iload 10, 2) := by decide +kernel
theorem dX8_round_100 : decode cX8_round 100 = .ok (.bipush 12, 2) := by decide +kernel
theorem dX8_round_102 : decode cX8_round 102 = .ok (.idiv, 1) := by decide +kernel
theorem dX8_round_103 : decode cX8_round 103 = .ok (.iload_n 3, 1) := by decide +kernel
theorem dX8_round_104 : decode cX8_round 104 = .ok (.if_icmp .gt 44, 3) := by decide +kernel
theorem dX8_round_107 : decode cX8_round 107 = .ok (.aload_n 0, 1) := by decide +kernel
theorem dX8_round_108 : decode cX8_round 108 = .ok (.iload 9, 2) := by decide +kernel
theorem dX8_round_110 : decode cX8_round 110 = .ok (.invokevirtual 116, 3) := by decide +kernel
theorem dX8_round_113 : decode cX8_round 113 = .ok (.ifCond .ne 35, 3) := by decide +kernel
theorem dX8_round_116 : decode cX8_round 116 = .ok (.aload_n 0, 1) := by decide +kernel
theorem dX8_round_117 : decode cX8_round 117 = .ok (.iload 9, 2) := by decide +kernel
theorem dX8_round_119 : decode cX8_round 119 = .ok (.invokevirtual 119, 3) := by decide +kernel
theorem dX8_round_122 : decode cX8_round 122 = .ok (.iload_n 1, 1) := by decide +kernel
theorem dX8_round_123 : decode cX8_round 123 = .ok (.if_icmp .ne 25, 3) := by decide +kernel
theorem dX8_round_126 : decode cX8_round 126 = .ok (.iload 7, 2) := by decide +kernel
theorem dX8_round_128 : decode cX8_round 128 = .ok (.bipush (-9), 2) := by decide +kernel
theorem dX8_round_130 : decode cX8_round 130 = .ok (.if_icmp .eq 10, 3) := by decide +kernel
theorem dX8_round_133 : decode cX8_round 133 = .ok (.iload 10, 2) := by decide +kernel
theorem dX8_round_135 : decode cX8_round 135 = .ok (.iload 8, 2) := by decide +kernel
theorem dX8_round_137 : decode cX8_round 137 = .ok (.if_icmp .ge 11, 3) := by decide +kernel
theorem dX8_round_140 : decode cX8_round 140 = .ok (.iload 9, 2) := by decide +kernel
theorem dX8_round_142 : decode cX8_round 142 = .ok (.istore 7, 2) := by decide +kernel
theorem dX8_round_144 : decode cX8_round 144 = .ok (.iload 10, 2) := by decide +kernel
theorem dX8_round_146 : decode cX8_round 146 = .ok (.istore 8, 2) := by decide +kernel
theorem dX8_round_148 : decode cX8_round 148 = .ok (.iinc 9 1, 3) := by decide +kernel
theorem dX8_round_151 : decode cX8_round 151 = .ok (.goto (-91), 3) := by decide +kernel
theorem dX8_round_154 : decode cX8_round 154 = .ok (.iload 7, 2) := by decide +kernel
theorem dX8_round_156 : decode cX8_round 156 = .ok (.bipush (-9), 2) := by decide +kernel
theorem dX8_round_158 : decode cX8_round 158 = .ok (.if_icmp .eq 64, 3) := by decide +kernel
theorem dX8_round_161 : decode cX8_round 161 = .ok (.iload 4, 2) := by decide +kernel
theorem dX8_round_163 : decode cX8_round 163 = .ok (.istore 9, 2) := by decide +kernel
theorem dX8_round_165 : decode cX8_round 165 = .ok (.iload 9, 2) := by decide +kernel
theorem dX8_round_167 : decode cX8_round 167 = .ok (.ifCond .le 39, 3) := by decide +kernel
theorem dX8_round_170 : decode cX8_round 170 = .ok (.aload_n 0, 1) := by decide +kernel
theorem dX8_round_171 : decode cX8_round 171 = .ok (.getfield 51, 3) := by decide +kernel
theorem dX8_round_174 : decode cX8_round 174 = .ok (.iload 9, 2) := by decide +kernel
theorem dX8_round_176 : decode cX8_round 176 = .ok (.iconst 1, 1) := by decide +kernel
theorem dX8_round_177 : decode cX8_round 177 = .ok (.isub, 1) := by decide +kernel
theorem dX8_round_178 : decode cX8_round 178 = .ok (.iaload, 1) := by decide +kernel
theorem dX8_round_179 : decode cX8_round 179 = .ok (.iload 7, 2) := by decide +kernel
theorem dX8_round_181 : decode cX8_round 181 = .ok (.if_icmp .le 25, 3) := by decide +kernel
theorem dX8_round_184 : decode cX8_round 184 = .ok (.aload_n 0, 1) := by decide +kernel
theorem dX8_round_185 : decode cX8_round 185 = .ok (.getfield 51, 3) := by decide +kernel
theorem dX8_round_188 : decode cX8_round 188 = .ok (.iload 9, 2) := by decide +kernel
theorem dX8_round_190 : decode cX8_round 190 = .ok (.aload_n 0, 1) := by decide +kernel
theorem dX8_round_191 : decode cX8_round 191 = .ok (.getfield 51, 3) := by decide +kernel
theorem dX8_round_194 : decode cX8_round 194 = .ok (.iload 9, 2) := by decide +kernel
theorem dX8_round_196 : decode cX8_round 196 = .ok (.iconst 1, 1) := by decide +kernel
theorem dX8_round_197 : decode cX8_round 197 = .ok (.isub, 1) := by decide +kernel
theorem dX8_round_198 : decode cX8_round 198 = .ok (.iaload, 1) := by decide +kernel
theorem dX8_round_199 : decode cX8_round 199 = .ok (.iastore, 1) := by decide +kernel
theorem dX8_round_200 : decode cX8_round 200 = .ok (.iinc 9 (-1), 3) := by decide +kernel
theorem dX8_round_203 : decode cX8_round 203 = .ok (.goto (-38), 3) := by decide +kernel
theorem dX8_round_206 : decode cX8_round 206 = .ok (.aload_n 0, 1) := by decide +kernel
theorem dX8_round_207 : decode cX8_round 207 = .ok (.getfield 51, 3) := by decide +kernel
theorem dX8_round_210 : decode cX8_round 210 = .ok (.iload 9, 2) := by decide +kernel
theorem dX8_round_212 : decode cX8_round 212 = .ok (.iload 7, 2) := by decide +kernel
theorem dX8_round_214 : decode cX8_round 214 = .ok (.iastore, 1) := by decide +kernel
theorem dX8_round_215 : decode cX8_round 215 = .ok (.iinc 4 1, 3) := by decide +kernel
theorem dX8_round_218 : decode cX8_round 218 = .ok (.iload 8, 2) := by decide +kernel
theorem dX8_round_220 : decode cX8_round 220 = .ok (.istore 5, 2) := by decide +kernel
theorem dX8_round_222 : decode cX8_round 222 = .ok (.iinc 6 1, 3) := by decide +kernel
theorem dX8_round_225 : decode cX8_round 225 = .ok (.goto (-181), 3) := by decide +kernel
theorem dX8_round_228 : decode cX8_round 228 = .ok (.iconst 0, 1) := by decide +kernel
theorem dX8_round_229 : decode cX8_round 229 = .ok (.istore 6, 2) := by decide +kernel
theorem dX8_round_231 : decode cX8_round 231 = .ok (.iload 6, 2) := by decide +kernel
theorem dX8_round_233 : decode cX8_round 233 = .ok (.iload 4, 2) := by decide +kernel
theorem dX8_round_235 : decode cX8_round 235 = .ok (.if_icmp .ge 18, 3) := by decide +kernel
theorem dX8_round_238 : decode cX8_round 238 = .ok (.aload_n 0, 1) := by decide +kernel
theorem dX8_round_239 : decode cX8_round 239 = .ok (.getfield 54, 3) := by decide +kernel
theorem dX8_round_242 : decode cX8_round 242 = .ok (.iload 6, 2) := by decide +kernel
theorem dX8_round_244 : decode cX8_round 244 = .ok (.iload 6, 2) := by decide +kernel
theorem dX8_round_246 : decode cX8_round 246 = .ok (.iastore, 1) := by decide +kernel
theorem dX8_round_247 : decode cX8_round 247 = .ok (.iinc 6 1, 3) := by decide +kernel
theorem dX8_round_250 : decode cX8_round 250 = .ok (.goto (-19), 3) := by decide +kernel
theorem dX8_round_253 : decode cX8_round 253 = .ok (.aload_n 0, 1) := by decide +kernel
theorem dX8_round_254 : decode cX8_round 254 = .ok (.iload 4, 2) := by decide +kernel
theorem dX8_round_256 : decode cX8_round 256 = .ok (.putfield 135, 3) := by decide +kernel
theorem dX8_round_259 : decode cX8_round 259 = .ok (.aload_n 0, 1) := by decide +kernel
theorem dX8_round_260 : decode cX8_round 260 = .ok (.ldc 138, 2) := by decide +kernel
theorem dX8_round_262 : decode cX8_round 262 = .ok (.putfield 139, 3) := by decide +kernel
theorem dX8_round_265 : decode cX8_round 265 = .ok (.iconst 1, 1) := by decide +kernel
theorem dX8_round_266 : decode cX8_round 266 = .ok (.istore 6, 2) := by decide +kernel
theorem dX8_round_268 : decode cX8_round 268 = .ok (.iload 6, 2) := by decide +kernel
theorem dX8_round_270 : decode cX8_round 270 = .ok (.ifCond .eq 72, 3) := by decide +kernel
theorem dX8_round_273 : decode cX8_round 273 = .ok (.aload_n 0, 1) := by decide +kernel
theorem dX8_round_274 : decode cX8_round 274 = .ok (.iload 4, 2) := by decide +kernel
theorem dX8_round_276 : decode cX8_round 276 = .ok (.invokevirtual 142, 3) := by decide +kernel
theorem dX8_round_279 : decode cX8_round 279 = .ok (.istore 7, 2) := by decide +kernel
theorem dX8_round_281 : decode cX8_round 281 = .ok (.iload 7, 2) := by decide +kernel
theorem dX8_round_283 : decode cX8_round 283 = .ok (.aload_n 0, 1) := by decide +kernel
theorem dX8_round_284 : decode cX8_round 284 = .ok (.getfield 139, 3) := by decide +kernel
theorem dX8_round_287 : decode cX8_round 287 = .ok (.if_icmp .ge 44, 3) := by decide +kernel
theorem dX8_round_290 : decode cX8_round 290 = .ok (.aload_n 0, 1) := by decide +kernel
theorem dX8_round_291 : decode cX8_round 291 = .ok (.iload 7, 2) := by decide +kernel
theorem dX8_round_293 : decode cX8_round 293 = .ok (.putfield 139, 3) := by decide +kernel
theorem dX8_round_296 : decode cX8_round 296 = .ok (.iconst 0, 1) := by decide +kernel
theorem dX8_round_297 : decode cX8_round 297 = .ok (.istore 8, 2) := by decide +kernel
theorem dX8_round_299 : decode cX8_round 299 = .ok (.iload 8, 2) := by decide +kernel
theorem dX8_round_301 : decode cX8_round 301 = .ok (.iload 4, 2) := by decide +kernel
theorem dX8_round_303 : decode cX8_round 303 = .ok (.if_icmp .ge 28, 3) := by decide +kernel
theorem dX8_round_306 : decode cX8_round 306 = .ok (.aload_n 0, 1) := by decide +kernel
theorem dX8_round_307 : decode cX8_round 307 = .ok (.getfield 48, 3) := by decide +kernel
theorem dX8_round_310 : decode cX8_round 310 = .ok (.iload 8, 2) := by decide +kernel
theorem dX8_round_312 : decode cX8_round 312 = .ok (.aload_n 0, 1) := by decide +kernel
theorem dX8_round_313 : decode cX8_round 313 = .ok (.getfield 51, 3) := by decide +kernel
theorem dX8_round_316 : decode cX8_round 316 = .ok (.aload_n 0, 1) := by decide +kernel
theorem dX8_round_317 : decode cX8_round 317 = .ok (.getfield 54, 3) := by decide +kernel
theorem dX8_round_320 : decode cX8_round 320 = .ok (.iload 8, 2) := by decide +kernel
theorem dX8_round_322 : decode cX8_round 322 = .ok (.iaload, 1) := by decide +kernel
theorem dX8_round_323 : decode cX8_round 323 = .ok (.iaload, 1) := by decide +kernel
theorem dX8_round_324 : decode cX8_round 324 = .ok (.iastore, 1) := by decide +kernel
theorem dX8_round_325 : decode cX8_round 325 = .ok (.iinc 8 1, 3) := by decide +kernel
theorem dX8_round_328 : decode cX8_round 328 = .ok (.goto (-29), 3) := by decide +kernel
theorem dX8_round_331 : decode cX8_round 331 = .ok (.aload_n 0, 1) := by decide +kernel
theorem dX8_round_332 : decode cX8_round 332 = .ok (.iload 4, 2) := by decide +kernel
theorem dX8_round_334 : decode cX8_round 334 = .ok (.invokevirtual 145, 3) := by decide +kernel
theorem dX8_round_337 : decode cX8_round 337 = .ok (.istore 6, 2) := by decide +kernel
theorem dX8_round_339 : decode cX8_round 339 = .ok (.goto (-71), 3) := by decide +kernel
theorem dX8_round_342 : decode cX8_round 342 = .ok (.iload 4, 2) := by decide +kernel
theorem dX8_round_344 : decode cX8_round 344 = .ok (.ireturn, 1) := by decide +kernel
theorem dX8_at_0 : decode cX8_at 0 = .ok (.aload_n 0, 1) := by decide +kernel
theorem dX8_at_1 : decode cX8_at 1 = .ok (.iconst 0, 1) := by decide +kernel
theorem dX8_at_2 : decode cX8_at 2 = .ok (.putfield 57, 3) := by decide +kernel
theorem dX8_at_5 : decode cX8_at 5 = .ok (.iload_n 1, 1) := by decide +kernel
theorem dX8_at_6 : decode cX8_at 6 = .ok (.iconst 0, 1) := by decide +kernel
theorem dX8_at_7 : decode cX8_at 7 = .ok (.bipush 6, 2) := by decide +kernel
theorem dX8_at_9 : decode cX8_at 9 = .ok (.invokestatic 60, 3) := by decide +kernel
theorem dX8_at_12 : decode cX8_at 12 = .ok (.ifCond .ne 5, 3) := by decide +kernel
theorem dX8_at_15 : decode cX8_at 15 = .ok (.iconst (-1), 1) := by decide +kernel
theorem dX8_at_16 : decode cX8_at 16 = .ok (.ireturn, 1) := by decide +kernel
theorem dX8_at_17 : decode cX8_at 17 = .ok (.iload_n 1, 1) := by decide +kernel
theorem dX8_at_18 : decode cX8_at 18 = .ok (.bipush 6, 2) := by decide +kernel
theorem dX8_at_20 : decode cX8_at 20 = .ok (.if_icmp .ne 10, 3) := by decide +kernel
theorem dX8_at_23 : decode cX8_at 23 = .ok (.aload_n 0, 1) := by decide +kernel
theorem dX8_at_24 : decode cX8_at 24 = .ok (.getfield 139, 3) := by decide +kernel
theorem dX8_at_27 : decode cX8_at 27 = .ok (.goto 22, 3) := by decide +kernel
theorem dX8_at_30 : decode cX8_at 30 = .ok (.iload_n 1, 1) := by decide +kernel
theorem dX8_at_31 : decode cX8_at 31 = .ok (.aload_n 0, 1) := by decide +kernel
theorem dX8_at_32 : decode cX8_at 32 = .ok (.getfield 135, 3) := by decide +kernel
theorem dX8_at_35 : decode cX8_at 35 = .ok (.if_icmp .ge 12, 3) := by decide +kernel
theorem dX8_at_38 : decode cX8_at 38 = .ok (.aload_n 0, 1) := by decide +kernel
theorem dX8_at_39 : decode cX8_at 39 = .ok (.getfield 48, 3) := by decide +kernel
theorem dX8_at_42 : decode cX8_at 42 = .ok (.iload_n 1, 1) := by decide +kernel
theorem dX8_at_43 : decode cX8_at 43 = .ok (.iaload, 1) := by decide +kernel
theorem dX8_at_44 : decode cX8_at 44 = .ok (.goto 5, 3) := by decide +kernel
theorem dX8_at_47 : decode cX8_at 47 = .ok (.bipush (-9), 2) := by decide +kernel
theorem dX8_at_49 : decode cX8_at 49 = .ok (.ireturn, 1) := by decide +kernel
theorem dX8_count_0 : decode cX8_count 0 = .ok (.aload_n 0, 1) := by decide +kernel
theorem dX8_count_1 : decode cX8_count 1 = .ok (.iconst 0, 1) := by decide +kernel
theorem dX8_count_2 : decode cX8_count 2 = .ok (.putfield 57, 3) := by decide +kernel
theorem dX8_count_5 : decode cX8_count 5 = .ok (.iload_n 1, 1) := by decide +kernel
theorem dX8_count_6 : decode cX8_count 6 = .ok (.tableswitch 77 0 6 #[42, 47, 52, 57, 62, 67, 72], 42) := by decide +kernel
theorem dX8_count_48 : decode cX8_count 48 = .ok (.aload_n 0, 1) := by decide +kernel
theorem dX8_count_49 : decode cX8_count 49 = .ok (.getfield 93, 3) := by decide +kernel
theorem dX8_count_52 : decode cX8_count 52 = .ok (.ireturn, 1) := by decide +kernel
theorem dX8_count_53 : decode cX8_count 53 = .ok (.aload_n 0, 1) := by decide +kernel
theorem dX8_count_54 : decode cX8_count 54 = .ok (.getfield 86, 3) := by decide +kernel
theorem dX8_count_57 : decode cX8_count 57 = .ok (.ireturn, 1) := by decide +kernel
theorem dX8_count_58 : decode cX8_count 58 = .ok (.aload_n 0, 1) := by decide +kernel
theorem dX8_count_59 : decode cX8_count 59 = .ok (.getfield 64, 3) := by decide +kernel
theorem dX8_count_62 : decode cX8_count 62 = .ok (.ireturn, 1) := by decide +kernel
theorem dX8_count_63 : decode cX8_count 63 = .ok (.aload_n 0, 1) := by decide +kernel
theorem dX8_count_64 : decode cX8_count 64 = .ok (.getfield 69, 3) := by decide +kernel
theorem dX8_count_67 : decode cX8_count 67 = .ok (.ireturn, 1) := by decide +kernel
theorem dX8_count_68 : decode cX8_count 68 = .ok (.aload_n 0, 1) := by decide +kernel
theorem dX8_count_69 : decode cX8_count 69 = .ok (.getfield 110, 3) := by decide +kernel
theorem dX8_count_72 : decode cX8_count 72 = .ok (.ireturn, 1) := by decide +kernel
theorem dX8_count_73 : decode cX8_count 73 = .ok (.aload_n 0, 1) := by decide +kernel
theorem dX8_count_74 : decode cX8_count 74 = .ok (.getfield 129, 3) := by decide +kernel
theorem dX8_count_77 : decode cX8_count 77 = .ok (.ireturn, 1) := by decide +kernel
theorem dX8_count_78 : decode cX8_count 78 = .ok (.aload_n 0, 1) := by decide +kernel
theorem dX8_count_79 : decode cX8_count 79 = .ok (.getfield 126, 3) := by decide +kernel
theorem dX8_count_82 : decode cX8_count 82 = .ok (.ireturn, 1) := by decide +kernel
theorem dX8_count_83 : decode cX8_count 83 = .ok (.iconst (-1), 1) := by decide +kernel
theorem dX8_count_84 : decode cX8_count 84 = .ok (.ireturn, 1) := by decide +kernel
theorem dX8_trace_0 : decode cX8_trace 0 = .ok (.aload_n 0, 1) := by decide +kernel
theorem dX8_trace_1 : decode cX8_trace 1 = .ok (.iconst 0, 1) := by decide +kernel
theorem dX8_trace_2 : decode cX8_trace 2 = .ok (.putfield 57, 3) := by decide +kernel
theorem dX8_trace_5 : decode cX8_trace 5 = .ok (.aload_n 0, 1) := by decide +kernel
theorem dX8_trace_6 : decode cX8_trace 6 = .ok (.getfield 102, 3) := by decide +kernel
theorem dX8_trace_9 : decode cX8_trace 9 = .ok (.lreturn, 1) := by decide +kernel
end
section
theorem dL_law_0 : decode cL_law 0 = .ok (.new 7, 3) := by decide +kernel
theorem dL_law_3 : decode cL_law 3 = .ok (.dup, 1) := by decide +kernel
theorem dL_law_4 : decode cL_law 4 = .ok (.invokespecial 9, 3) := by decide +kernel
theorem dL_law_7 : decode cL_law 7 = .ok (.astore_n 1, 1) := by decide +kernel
theorem dL_law_8 : decode cL_law 8 = .ok (.new 10, 3) := by decide +kernel
theorem dL_law_11 : decode cL_law 11 = .ok (.dup, 1) := by decide +kernel
theorem dL_law_12 : decode cL_law 12 = .ok (.invokespecial 12, 3) := by decide +kernel
theorem dL_law_15 : decode cL_law 15 = .ok (.astore_n 2, 1) := by decide +kernel
theorem dL_law_16 : decode cL_law 16 = .ok (.iconst 0, 1) := by decide +kernel
theorem dL_law_17 : decode cL_law 17 = .ok (.istore_n 3, 1) := by decide +kernel
theorem dL_law_18 : decode cL_law 18 = .ok (.iload_n 3, 1) := by decide +kernel
theorem dL_law_19 : decode cL_law 19 = .ok (.aload_n 0, 1) := by decide +kernel
theorem dL_law_20 : decode cL_law 20 = .ok (.arraylength, 1) := by decide +kernel
theorem dL_law_21 : decode cL_law 21 = .ok (.bipush 9, 2) := by decide +kernel
theorem dL_law_23 : decode cL_law 23 = .ok (.isub, 1) := by decide +kernel
theorem dL_law_24 : decode cL_law 24 = .ok (.if_icmp .gt 870, 3) := by decide +kernel
theorem dL_law_27 : decode cL_law 27 = .ok (.aload_n 0, 1) := by decide +kernel
theorem dL_law_28 : decode cL_law 28 = .ok (.iload_n 3, 1) := by decide +kernel
theorem dL_law_29 : decode cL_law 29 = .ok (.iaload, 1) := by decide +kernel
theorem dL_law_30 : decode cL_law 30 = .ok (.bipush 31, 2) := by decide +kernel
theorem dL_law_32 : decode cL_law 32 = .ok (.iand, 1) := by decide +kernel
theorem dL_law_33 : decode cL_law 33 = .ok (.tableswitch 855 0 22 #[107, 170, 183, 196, 229, 252, 351, 374, 407, 430, 443, 466, 489, 548, 581, 614, 647, 670, 719, 752, 795, 818, 841], 107) := by decide +kernel
theorem dL_law_140 : decode cL_law 140 = .ok (.aload_n 1, 1) := by decide +kernel
theorem dL_law_141 : decode cL_law 141 = .ok (.aload_n 0, 1) := by decide +kernel
theorem dL_law_142 : decode cL_law 142 = .ok (.iload_n 3, 1) := by decide +kernel
theorem dL_law_143 : decode cL_law 143 = .ok (.iconst 1, 1) := by decide +kernel
theorem dL_law_144 : decode cL_law 144 = .ok (.iadd, 1) := by decide +kernel
theorem dL_law_145 : decode cL_law 145 = .ok (.iaload, 1) := by decide +kernel
theorem dL_law_146 : decode cL_law 146 = .ok (.i2l, 1) := by decide +kernel
theorem dL_law_147 : decode cL_law 147 = .ok (.bipush 32, 2) := by decide +kernel
theorem dL_law_149 : decode cL_law 149 = .ok (.lshl, 1) := by decide +kernel
theorem dL_law_150 : decode cL_law 150 = .ok (.aload_n 0, 1) := by decide +kernel
theorem dL_law_151 : decode cL_law 151 = .ok (.iload_n 3, 1) := by decide +kernel
theorem dL_law_152 : decode cL_law 152 = .ok (.iconst 2, 1) := by decide +kernel
theorem dL_law_153 : decode cL_law 153 = .ok (.iadd, 1) := by decide +kernel
theorem dL_law_154 : decode cL_law 154 = .ok (.iaload, 1) := by decide +kernel
theorem dL_law_155 : decode cL_law 155 = .ok (.i2l, 1) := by decide +kernel
theorem dL_law_156 : decode cL_law 156 = .ok (.ldc2_w 13, 3) := by decide +kernel
theorem dL_law_159 : decode cL_law 159 = .ok (.land, 1) := by decide +kernel
theorem dL_law_160 : decode cL_law 160 = .ok (.lor, 1) := by decide +kernel
theorem dL_law_161 : decode cL_law 161 = .ok (.aload_n 0, 1) := by decide +kernel
theorem dL_law_162 : decode cL_law 162 = .ok (.iload_n 3, 1) := by decide +kernel
theorem dL_law_163 : decode cL_law 163 = .ok (.iconst 3, 1) := by decide +kernel
theorem dL_law_164 : decode cL_law 164 = .ok (.iadd, 1) := by decide +kernel
theorem dL_law_165 : decode cL_law 165 = .ok (.iaload, 1) := by decide +kernel
theorem dL_law_166 : decode cL_law 166 = .ok (.invokevirtual 15, 3) := by decide +kernel
theorem dL_law_169 : decode cL_law 169 = .ok (.aload_n 2, 1) := by decide +kernel
theorem dL_law_170 : decode cL_law 170 = .ok (.aload_n 0, 1) := by decide +kernel
theorem dL_law_171 : decode cL_law 171 = .ok (.iload_n 3, 1) := by decide +kernel
theorem dL_law_172 : decode cL_law 172 = .ok (.iconst 1, 1) := by decide +kernel
theorem dL_law_173 : decode cL_law 173 = .ok (.iadd, 1) := by decide +kernel
theorem dL_law_174 : decode cL_law 174 = .ok (.iaload, 1) := by decide +kernel
theorem dL_law_175 : decode cL_law 175 = .ok (.i2l, 1) := by decide +kernel
theorem dL_law_176 : decode cL_law 176 = .ok (.bipush 32, 2) := by decide +kernel
theorem dL_law_178 : decode cL_law 178 = .ok (.lshl, 1) := by decide +kernel
theorem dL_law_179 : decode cL_law 179 = .ok (.aload_n 0, 1) := by decide +kernel
theorem dL_law_180 : decode cL_law 180 = .ok (.iload_n 3, 1) := by decide +kernel
theorem dL_law_181 : decode cL_law 181 = .ok (.iconst 2, 1) := by decide +kernel
theorem dL_law_182 : decode cL_law 182 = .ok (.iadd, 1) := by decide +kernel
theorem dL_law_183 : decode cL_law 183 = .ok (.iaload, 1) := by decide +kernel
theorem dL_law_184 : decode cL_law 184 = .ok (.i2l, 1) := by decide +kernel
theorem dL_law_185 : decode cL_law 185 = .ok (.ldc2_w 13, 3) := by decide +kernel
theorem dL_law_188 : decode cL_law 188 = .ok (.land, 1) := by decide +kernel
theorem dL_law_189 : decode cL_law 189 = .ok (.lor, 1) := by decide +kernel
theorem dL_law_190 : decode cL_law 190 = .ok (.aload_n 0, 1) := by decide +kernel
theorem dL_law_191 : decode cL_law 191 = .ok (.iload_n 3, 1) := by decide +kernel
theorem dL_law_192 : decode cL_law 192 = .ok (.iconst 3, 1) := by decide +kernel
theorem dL_law_193 : decode cL_law 193 = .ok (.iadd, 1) := by decide +kernel
theorem dL_law_194 : decode cL_law 194 = .ok (.iaload, 1) := by decide +kernel
theorem dL_law_195 : decode cL_law 195 = .ok (.invokevirtual 19, 3) := by decide +kernel
theorem dL_law_198 : decode cL_law 198 = .ok (.if_icmp .eq 690, 3) := by decide +kernel
theorem dL_law_201 : decode cL_law 201 = .ok (.iconst 0, 1) := by decide +kernel
theorem dL_law_202 : decode cL_law 202 = .ok (.ireturn, 1) := by decide +kernel
theorem dL_law_203 : decode cL_law 203 = .ok (.aload_n 1, 1) := by decide +kernel
theorem dL_law_204 : decode cL_law 204 = .ok (.invokevirtual 20, 3) := by decide +kernel
theorem dL_law_207 : decode cL_law 207 = .ok (.aload_n 2, 1) := by decide +kernel
theorem dL_law_208 : decode cL_law 208 = .ok (.invokevirtual 24, 3) := by decide +kernel
theorem dL_law_211 : decode cL_law 211 = .ok (.if_icmp .eq 677, 3) := by decide +kernel
theorem dL_law_214 : decode cL_law 214 = .ok (.iconst 0, 1) := by decide +kernel
theorem dL_law_215 : decode cL_law 215 = .ok (.ireturn, 1) := by decide +kernel
theorem dL_law_216 : decode cL_law 216 = .ok (.aload_n 1, 1) := by decide +kernel
theorem dL_law_217 : decode cL_law 217 = .ok (.invokevirtual 25, 3) := by decide +kernel
theorem dL_law_220 : decode cL_law 220 = .ok (.aload_n 2, 1) := by decide +kernel
theorem dL_law_221 : decode cL_law 221 = .ok (.invokevirtual 28, 3) := by decide +kernel
theorem dL_law_224 : decode cL_law 224 = .ok (.if_icmp .eq 664, 3) := by decide +kernel
theorem dL_law_227 : decode cL_law 227 = .ok (.iconst 0, 1) := by decide +kernel
theorem dL_law_228 : decode cL_law 228 = .ok (.ireturn, 1) := by decide +kernel
theorem dL_law_229 : decode cL_law 229 = .ok (.aload_n 1, 1) := by decide +kernel
theorem dL_law_230 : decode cL_law 230 = .ok (.aload_n 0, 1) := by decide +kernel
theorem dL_law_231 : decode cL_law 231 = .ok (.iload_n 3, 1) := by decide +kernel
theorem dL_law_232 : decode cL_law 232 = .ok (.iconst 1, 1) := by decide +kernel
theorem dL_law_233 : decode cL_law 233 = .ok (.iadd, 1) := by decide +kernel
theorem dL_law_234 : decode cL_law 234 = .ok (.iaload, 1) := by decide +kernel
theorem dL_law_235 : decode cL_law 235 = .ok (.aload_n 0, 1) := by decide +kernel
theorem dL_law_236 : decode cL_law 236 = .ok (.iload_n 3, 1) := by decide +kernel
theorem dL_law_237 : decode cL_law 237 = .ok (.iconst 2, 1) := by decide +kernel
theorem dL_law_238 : decode cL_law 238 = .ok (.iadd, 1) := by decide +kernel
theorem dL_law_239 : decode cL_law 239 = .ok (.iaload, 1) := by decide +kernel
theorem dL_law_240 : decode cL_law 240 = .ok (.invokevirtual 29, 3) := by decide +kernel
theorem dL_law_243 : decode cL_law 243 = .ok (.aload_n 2, 1) := by decide +kernel
theorem dL_law_244 : decode cL_law 244 = .ok (.aload_n 0, 1) := by decide +kernel
theorem dL_law_245 : decode cL_law 245 = .ok (.iload_n 3, 1) := by decide +kernel
theorem dL_law_246 : decode cL_law 246 = .ok (.iconst 1, 1) := by decide +kernel
theorem dL_law_247 : decode cL_law 247 = .ok (.iadd, 1) := by decide +kernel
theorem dL_law_248 : decode cL_law 248 = .ok (.iaload, 1) := by decide +kernel
theorem dL_law_249 : decode cL_law 249 = .ok (.aload_n 0, 1) := by decide +kernel
theorem dL_law_250 : decode cL_law 250 = .ok (.iload_n 3, 1) := by decide +kernel
theorem dL_law_251 : decode cL_law 251 = .ok (.iconst 2, 1) := by decide +kernel
theorem dL_law_252 : decode cL_law 252 = .ok (.iadd, 1) := by decide +kernel
theorem dL_law_253 : decode cL_law 253 = .ok (.iaload, 1) := by decide +kernel
theorem dL_law_254 : decode cL_law 254 = .ok (.invokevirtual 33, 3) := by decide +kernel
theorem dL_law_257 : decode cL_law 257 = .ok (.if_icmp .eq 631, 3) := by decide +kernel
theorem dL_law_260 : decode cL_law 260 = .ok (.iconst 0, 1) := by decide +kernel
theorem dL_law_261 : decode cL_law 261 = .ok (.ireturn, 1) := by decide +kernel
theorem dL_law_262 : decode cL_law 262 = .ok (.aload_n 1, 1) := by decide +kernel
theorem dL_law_263 : decode cL_law 263 = .ok (.aload_n 0, 1) := by decide +kernel
theorem dL_law_264 : decode cL_law 264 = .ok (.iload_n 3, 1) := by decide +kernel
theorem dL_law_265 : decode cL_law 265 = .ok (.iconst 1, 1) := by decide +kernel
theorem dL_law_266 : decode cL_law 266 = .ok (.iadd, 1) := by decide +kernel
theorem dL_law_267 : decode cL_law 267 = .ok (.iaload, 1) := by decide +kernel
theorem dL_law_268 : decode cL_law 268 = .ok (.invokevirtual 34, 3) := by decide +kernel
theorem dL_law_271 : decode cL_law 271 = .ok (.aload_n 2, 1) := by decide +kernel
theorem dL_law_272 : decode cL_law 272 = .ok (.aload_n 0, 1) := by decide +kernel
theorem dL_law_273 : decode cL_law 273 = .ok (.iload_n 3, 1) := by decide +kernel
theorem dL_law_274 : decode cL_law 274 = .ok (.iconst 1, 1) := by decide +kernel
theorem dL_law_275 : decode cL_law 275 = .ok (.iadd, 1) := by decide +kernel
theorem dL_law_276 : decode cL_law 276 = .ok (.iaload, 1) := by decide +kernel
theorem dL_law_277 : decode cL_law 277 = .ok (.invokevirtual 38, 3) := by decide +kernel
theorem dL_law_280 : decode cL_law 280 = .ok (.if_icmp .eq 608, 3) := by decide +kernel
theorem dL_law_283 : decode cL_law 283 = .ok (.iconst 0, 1) := by decide +kernel
theorem dL_law_284 : decode cL_law 284 = .ok (.ireturn, 1) := by decide +kernel
theorem dL_law_285 : decode cL_law 285 = .ok (.aload_n 1, 1) := by decide +kernel
theorem dL_law_286 : decode cL_law 286 = .ok (.aload_n 0, 1) := by decide +kernel
theorem dL_law_287 : decode cL_law 287 = .ok (.iload_n 3, 1) := by decide +kernel
theorem dL_law_288 : decode cL_law 288 = .ok (.iconst 1, 1) := by decide +kernel
theorem dL_law_289 : decode cL_law 289 = .ok (.iadd, 1) := by decide +kernel
theorem dL_law_290 : decode cL_law 290 = .ok (.iaload, 1) := by decide +kernel
theorem dL_law_291 : decode cL_law 291 = .ok (.aload_n 0, 1) := by decide +kernel
theorem dL_law_292 : decode cL_law 292 = .ok (.iload_n 3, 1) := by decide +kernel
theorem dL_law_293 : decode cL_law 293 = .ok (.iconst 2, 1) := by decide +kernel
theorem dL_law_294 : decode cL_law 294 = .ok (.iadd, 1) := by decide +kernel
theorem dL_law_295 : decode cL_law 295 = .ok (.iaload, 1) := by decide +kernel
theorem dL_law_296 : decode cL_law 296 = .ok (.aload_n 0, 1) := by decide +kernel
theorem dL_law_297 : decode cL_law 297 = .ok (.iload_n 3, 1) := by decide +kernel
theorem dL_law_298 : decode cL_law 298 = .ok (.iconst 3, 1) := by decide +kernel
theorem dL_law_299 : decode cL_law 299 = .ok (.iadd, 1) := by decide +kernel
theorem dL_law_300 : decode cL_law 300 = .ok (.iaload, 1) := by decide +kernel
theorem dL_law_301 : decode cL_law 301 = .ok (.aload_n 0, 1) := by decide +kernel
theorem dL_law_302 : decode cL_law 302 = .ok (.iload_n 3, 1) := by decide +kernel
theorem dL_law_303 : decode cL_law 303 = .ok (.iconst 4, 1) := by decide +kernel
theorem dL_law_304 : decode cL_law 304 = .ok (.iadd, 1) := by decide +kernel
theorem dL_law_305 : decode cL_law 305 = .ok (.iaload, 1) := by decide +kernel
theorem dL_law_306 : decode cL_law 306 = .ok (.aload_n 0, 1) := by decide +kernel
theorem dL_law_307 : decode cL_law 307 = .ok (.iload_n 3, 1) := by decide +kernel
theorem dL_law_308 : decode cL_law 308 = .ok (.iconst 5, 1) := by decide +kernel
theorem dL_law_309 : decode cL_law 309 = .ok (.iadd, 1) := by decide +kernel
theorem dL_law_310 : decode cL_law 310 = .ok (.iaload, 1) := by decide +kernel
theorem dL_law_311 : decode cL_law 311 = .ok (.aload_n 0, 1) := by decide +kernel
theorem dL_law_312 : decode cL_law 312 = .ok (.iload_n 3, 1) := by decide +kernel
theorem dL_law_313 : decode cL_law 313 = .ok (.bipush 6, 2) := by decide +kernel
theorem dL_law_315 : decode cL_law 315 = .ok (.iadd, 1) := by decide +kernel
theorem dL_law_316 : decode cL_law 316 = .ok (.iaload, 1) := by decide +kernel
theorem dL_law_317 : decode cL_law 317 = .ok (.aload_n 0, 1) := by decide +kernel
theorem dL_law_318 : decode cL_law 318 = .ok (.iload_n 3, 1) := by decide +kernel
theorem dL_law_319 : decode cL_law 319 = .ok (.bipush 7, 2) := by decide +kernel
theorem dL_law_321 : decode cL_law 321 = .ok (.iadd, 1) := by decide +kernel
theorem dL_law_322 : decode cL_law 322 = .ok (.iaload, 1) := by decide +kernel
theorem dL_law_323 : decode cL_law 323 = .ok (.aload_n 0, 1) := by decide +kernel
theorem dL_law_324 : decode cL_law 324 = .ok (.iload_n 3, 1) := by decide +kernel
theorem dL_law_325 : decode cL_law 325 = .ok (.bipush 8, 2) := by decide +kernel
theorem dL_law_327 : decode cL_law 327 = .ok (.iadd, 1) := by decide +kernel
theorem dL_law_328 : decode cL_law 328 = .ok (.iaload, 1) := by decide +kernel
theorem dL_law_329 : decode cL_law 329 = .ok (.invokevirtual 39, 3) := by decide +kernel
theorem dL_law_332 : decode cL_law 332 = .ok (.aload_n 2, 1) := by decide +kernel
theorem dL_law_333 : decode cL_law 333 = .ok (.aload_n 0, 1) := by decide +kernel
theorem dL_law_334 : decode cL_law 334 = .ok (.iload_n 3, 1) := by decide +kernel
theorem dL_law_335 : decode cL_law 335 = .ok (.iconst 1, 1) := by decide +kernel
theorem dL_law_336 : decode cL_law 336 = .ok (.iadd, 1) := by decide +kernel
theorem dL_law_337 : decode cL_law 337 = .ok (.iaload, 1) := by decide +kernel
theorem dL_law_338 : decode cL_law 338 = .ok (.aload_n 0, 1) := by decide +kernel
theorem dL_law_339 : decode cL_law 339 = .ok (.iload_n 3, 1) := by decide +kernel
theorem dL_law_340 : decode cL_law 340 = .ok (.iconst 2, 1) := by decide +kernel
theorem dL_law_341 : decode cL_law 341 = .ok (.iadd, 1) := by decide +kernel
theorem dL_law_342 : decode cL_law 342 = .ok (.iaload, 1) := by decide +kernel
theorem dL_law_343 : decode cL_law 343 = .ok (.aload_n 0, 1) := by decide +kernel
theorem dL_law_344 : decode cL_law 344 = .ok (.iload_n 3, 1) := by decide +kernel
theorem dL_law_345 : decode cL_law 345 = .ok (.iconst 3, 1) := by decide +kernel
theorem dL_law_346 : decode cL_law 346 = .ok (.iadd, 1) := by decide +kernel
theorem dL_law_347 : decode cL_law 347 = .ok (.iaload, 1) := by decide +kernel
theorem dL_law_348 : decode cL_law 348 = .ok (.aload_n 0, 1) := by decide +kernel
theorem dL_law_349 : decode cL_law 349 = .ok (.iload_n 3, 1) := by decide +kernel
theorem dL_law_350 : decode cL_law 350 = .ok (.iconst 4, 1) := by decide +kernel
theorem dL_law_351 : decode cL_law 351 = .ok (.iadd, 1) := by decide +kernel
theorem dL_law_352 : decode cL_law 352 = .ok (.iaload, 1) := by decide +kernel
theorem dL_law_353 : decode cL_law 353 = .ok (.aload_n 0, 1) := by decide +kernel
theorem dL_law_354 : decode cL_law 354 = .ok (.iload_n 3, 1) := by decide +kernel
theorem dL_law_355 : decode cL_law 355 = .ok (.iconst 5, 1) := by decide +kernel
theorem dL_law_356 : decode cL_law 356 = .ok (.iadd, 1) := by decide +kernel
theorem dL_law_357 : decode cL_law 357 = .ok (.iaload, 1) := by decide +kernel
theorem dL_law_358 : decode cL_law 358 = .ok (.aload_n 0, 1) := by decide +kernel
theorem dL_law_359 : decode cL_law 359 = .ok (.iload_n 3, 1) := by decide +kernel
theorem dL_law_360 : decode cL_law 360 = .ok (.bipush 6, 2) := by decide +kernel
theorem dL_law_362 : decode cL_law 362 = .ok (.iadd, 1) := by decide +kernel
theorem dL_law_363 : decode cL_law 363 = .ok (.iaload, 1) := by decide +kernel
theorem dL_law_364 : decode cL_law 364 = .ok (.aload_n 0, 1) := by decide +kernel
theorem dL_law_365 : decode cL_law 365 = .ok (.iload_n 3, 1) := by decide +kernel
theorem dL_law_366 : decode cL_law 366 = .ok (.bipush 7, 2) := by decide +kernel
theorem dL_law_368 : decode cL_law 368 = .ok (.iadd, 1) := by decide +kernel
theorem dL_law_369 : decode cL_law 369 = .ok (.iaload, 1) := by decide +kernel
theorem dL_law_370 : decode cL_law 370 = .ok (.aload_n 0, 1) := by decide +kernel
theorem dL_law_371 : decode cL_law 371 = .ok (.iload_n 3, 1) := by decide +kernel
theorem dL_law_372 : decode cL_law 372 = .ok (.bipush 8, 2) := by decide +kernel
theorem dL_law_374 : decode cL_law 374 = .ok (.iadd, 1) := by decide +kernel
theorem dL_law_375 : decode cL_law 375 = .ok (.iaload, 1) := by decide +kernel
theorem dL_law_376 : decode cL_law 376 = .ok (.invokevirtual 43, 3) := by decide +kernel
theorem dL_law_379 : decode cL_law 379 = .ok (.if_icmp .eq 509, 3) := by decide +kernel
theorem dL_law_382 : decode cL_law 382 = .ok (.iconst 0, 1) := by decide +kernel
theorem dL_law_383 : decode cL_law 383 = .ok (.ireturn, 1) := by decide +kernel
theorem dL_law_384 : decode cL_law 384 = .ok (.aload_n 1, 1) := by decide +kernel
theorem dL_law_385 : decode cL_law 385 = .ok (.aload_n 0, 1) := by decide +kernel
theorem dL_law_386 : decode cL_law 386 = .ok (.iload_n 3, 1) := by decide +kernel
theorem dL_law_387 : decode cL_law 387 = .ok (.iconst 1, 1) := by decide +kernel
theorem dL_law_388 : decode cL_law 388 = .ok (.iadd, 1) := by decide +kernel
theorem dL_law_389 : decode cL_law 389 = .ok (.iaload, 1) := by decide +kernel
theorem dL_law_390 : decode cL_law 390 = .ok (.invokevirtual 44, 3) := by decide +kernel
theorem dL_law_393 : decode cL_law 393 = .ok (.aload_n 2, 1) := by decide +kernel
theorem dL_law_394 : decode cL_law 394 = .ok (.aload_n 0, 1) := by decide +kernel
theorem dL_law_395 : decode cL_law 395 = .ok (.iload_n 3, 1) := by decide +kernel
theorem dL_law_396 : decode cL_law 396 = .ok (.iconst 1, 1) := by decide +kernel
theorem dL_law_397 : decode cL_law 397 = .ok (.iadd, 1) := by decide +kernel
theorem dL_law_398 : decode cL_law 398 = .ok (.iaload, 1) := by decide +kernel
theorem dL_law_399 : decode cL_law 399 = .ok (.invokevirtual 47, 3) := by decide +kernel
theorem dL_law_402 : decode cL_law 402 = .ok (.if_icmp .eq 486, 3) := by decide +kernel
theorem dL_law_405 : decode cL_law 405 = .ok (.iconst 0, 1) := by decide +kernel
theorem dL_law_406 : decode cL_law 406 = .ok (.ireturn, 1) := by decide +kernel
theorem dL_law_407 : decode cL_law 407 = .ok (.aload_n 1, 1) := by decide +kernel
theorem dL_law_408 : decode cL_law 408 = .ok (.aload_n 0, 1) := by decide +kernel
theorem dL_law_409 : decode cL_law 409 = .ok (.iload_n 3, 1) := by decide +kernel
theorem dL_law_410 : decode cL_law 410 = .ok (.iconst 1, 1) := by decide +kernel
theorem dL_law_411 : decode cL_law 411 = .ok (.iadd, 1) := by decide +kernel
theorem dL_law_412 : decode cL_law 412 = .ok (.iaload, 1) := by decide +kernel
theorem dL_law_413 : decode cL_law 413 = .ok (.aload_n 0, 1) := by decide +kernel
theorem dL_law_414 : decode cL_law 414 = .ok (.iload_n 3, 1) := by decide +kernel
theorem dL_law_415 : decode cL_law 415 = .ok (.iconst 2, 1) := by decide +kernel
theorem dL_law_416 : decode cL_law 416 = .ok (.iadd, 1) := by decide +kernel
theorem dL_law_417 : decode cL_law 417 = .ok (.iaload, 1) := by decide +kernel
theorem dL_law_418 : decode cL_law 418 = .ok (.invokevirtual 48, 3) := by decide +kernel
theorem dL_law_421 : decode cL_law 421 = .ok (.aload_n 2, 1) := by decide +kernel
theorem dL_law_422 : decode cL_law 422 = .ok (.aload_n 0, 1) := by decide +kernel
theorem dL_law_423 : decode cL_law 423 = .ok (.iload_n 3, 1) := by decide +kernel
theorem dL_law_424 : decode cL_law 424 = .ok (.iconst 1, 1) := by decide +kernel
theorem dL_law_425 : decode cL_law 425 = .ok (.iadd, 1) := by decide +kernel
theorem dL_law_426 : decode cL_law 426 = .ok (.iaload, 1) := by decide +kernel
theorem dL_law_427 : decode cL_law 427 = .ok (.aload_n 0, 1) := by decide +kernel
theorem dL_law_428 : decode cL_law 428 = .ok (.iload_n 3, 1) := by decide +kernel
theorem dL_law_429 : decode cL_law 429 = .ok (.iconst 2, 1) := by decide +kernel
theorem dL_law_430 : decode cL_law 430 = .ok (.iadd, 1) := by decide +kernel
theorem dL_law_431 : decode cL_law 431 = .ok (.iaload, 1) := by decide +kernel
theorem dL_law_432 : decode cL_law 432 = .ok (.invokevirtual 51, 3) := by decide +kernel
theorem dL_law_435 : decode cL_law 435 = .ok (.if_icmp .eq 453, 3) := by decide +kernel
theorem dL_law_438 : decode cL_law 438 = .ok (.iconst 0, 1) := by decide +kernel
theorem dL_law_439 : decode cL_law 439 = .ok (.ireturn, 1) := by decide +kernel
theorem dL_law_440 : decode cL_law 440 = .ok (.aload_n 1, 1) := by decide +kernel
theorem dL_law_441 : decode cL_law 441 = .ok (.aload_n 0, 1) := by decide +kernel
theorem dL_law_442 : decode cL_law 442 = .ok (.iload_n 3, 1) := by decide +kernel
theorem dL_law_443 : decode cL_law 443 = .ok (.iconst 1, 1) := by decide +kernel
theorem dL_law_444 : decode cL_law 444 = .ok (.iadd, 1) := by decide +kernel
theorem dL_law_445 : decode cL_law 445 = .ok (.iaload, 1) := by decide +kernel
theorem dL_law_446 : decode cL_law 446 = .ok (.invokevirtual 52, 3) := by decide +kernel
theorem dL_law_449 : decode cL_law 449 = .ok (.aload_n 2, 1) := by decide +kernel
theorem dL_law_450 : decode cL_law 450 = .ok (.aload_n 0, 1) := by decide +kernel
theorem dL_law_451 : decode cL_law 451 = .ok (.iload_n 3, 1) := by decide +kernel
theorem dL_law_452 : decode cL_law 452 = .ok (.iconst 1, 1) := by decide +kernel
theorem dL_law_453 : decode cL_law 453 = .ok (.iadd, 1) := by decide +kernel
theorem dL_law_454 : decode cL_law 454 = .ok (.iaload, 1) := by decide +kernel
theorem dL_law_455 : decode cL_law 455 = .ok (.invokevirtual 55, 3) := by decide +kernel
theorem dL_law_458 : decode cL_law 458 = .ok (.if_icmp .eq 430, 3) := by decide +kernel
theorem dL_law_461 : decode cL_law 461 = .ok (.iconst 0, 1) := by decide +kernel
theorem dL_law_462 : decode cL_law 462 = .ok (.ireturn, 1) := by decide +kernel
theorem dL_law_463 : decode cL_law 463 = .ok (.aload_n 1, 1) := by decide +kernel
theorem dL_law_464 : decode cL_law 464 = .ok (.invokevirtual 56, 3) := by decide +kernel
theorem dL_law_467 : decode cL_law 467 = .ok (.aload_n 2, 1) := by decide +kernel
theorem dL_law_468 : decode cL_law 468 = .ok (.invokevirtual 59, 3) := by decide +kernel
theorem dL_law_471 : decode cL_law 471 = .ok (.if_icmp .eq 417, 3) := by decide +kernel
theorem dL_law_474 : decode cL_law 474 = .ok (.iconst 0, 1) := by decide +kernel
theorem dL_law_475 : decode cL_law 475 = .ok (.ireturn, 1) := by decide +kernel
theorem dL_law_476 : decode cL_law 476 = .ok (.aload_n 1, 1) := by decide +kernel
theorem dL_law_477 : decode cL_law 477 = .ok (.aload_n 0, 1) := by decide +kernel
theorem dL_law_478 : decode cL_law 478 = .ok (.iload_n 3, 1) := by decide +kernel
theorem dL_law_479 : decode cL_law 479 = .ok (.iconst 1, 1) := by decide +kernel
theorem dL_law_480 : decode cL_law 480 = .ok (.iadd, 1) := by decide +kernel
theorem dL_law_481 : decode cL_law 481 = .ok (.iaload, 1) := by decide +kernel
theorem dL_law_482 : decode cL_law 482 = .ok (.invokevirtual 60, 3) := by decide +kernel
theorem dL_law_485 : decode cL_law 485 = .ok (.aload_n 2, 1) := by decide +kernel
theorem dL_law_486 : decode cL_law 486 = .ok (.aload_n 0, 1) := by decide +kernel
theorem dL_law_487 : decode cL_law 487 = .ok (.iload_n 3, 1) := by decide +kernel
theorem dL_law_488 : decode cL_law 488 = .ok (.iconst 1, 1) := by decide +kernel
theorem dL_law_489 : decode cL_law 489 = .ok (.iadd, 1) := by decide +kernel
theorem dL_law_490 : decode cL_law 490 = .ok (.iaload, 1) := by decide +kernel
theorem dL_law_491 : decode cL_law 491 = .ok (.invokevirtual 63, 3) := by decide +kernel
theorem dL_law_494 : decode cL_law 494 = .ok (.if_icmp .eq 394, 3) := by decide +kernel
theorem dL_law_497 : decode cL_law 497 = .ok (.iconst 0, 1) := by decide +kernel
theorem dL_law_498 : decode cL_law 498 = .ok (.ireturn, 1) := by decide +kernel
theorem dL_law_499 : decode cL_law 499 = .ok (.aload_n 1, 1) := by decide +kernel
theorem dL_law_500 : decode cL_law 500 = .ok (.aload_n 0, 1) := by decide +kernel
theorem dL_law_501 : decode cL_law 501 = .ok (.iload_n 3, 1) := by decide +kernel
theorem dL_law_502 : decode cL_law 502 = .ok (.iconst 1, 1) := by decide +kernel
theorem dL_law_503 : decode cL_law 503 = .ok (.iadd, 1) := by decide +kernel
theorem dL_law_504 : decode cL_law 504 = .ok (.iaload, 1) := by decide +kernel
theorem dL_law_505 : decode cL_law 505 = .ok (.invokevirtual 64, 3) := by decide +kernel
theorem dL_law_508 : decode cL_law 508 = .ok (.aload_n 2, 1) := by decide +kernel
theorem dL_law_509 : decode cL_law 509 = .ok (.aload_n 0, 1) := by decide +kernel
theorem dL_law_510 : decode cL_law 510 = .ok (.iload_n 3, 1) := by decide +kernel
theorem dL_law_511 : decode cL_law 511 = .ok (.iconst 1, 1) := by decide +kernel
theorem dL_law_512 : decode cL_law 512 = .ok (.iadd, 1) := by decide +kernel
theorem dL_law_513 : decode cL_law 513 = .ok (.iaload, 1) := by decide +kernel
theorem dL_law_514 : decode cL_law 514 = .ok (.invokevirtual 67, 3) := by decide +kernel
theorem dL_law_517 : decode cL_law 517 = .ok (.if_icmp .eq 371, 3) := by decide +kernel
theorem dL_law_520 : decode cL_law 520 = .ok (.iconst 0, 1) := by decide +kernel
theorem dL_law_521 : decode cL_law 521 = .ok (.ireturn, 1) := by decide +kernel
theorem dL_law_522 : decode cL_law 522 = .ok (.aload_n 1, 1) := by decide +kernel
theorem dL_law_523 : decode cL_law 523 = .ok (.aload_n 0, 1) := by decide +kernel
theorem dL_law_524 : decode cL_law 524 = .ok (.iload_n 3, 1) := by decide +kernel
theorem dL_law_525 : decode cL_law 525 = .ok (.iconst 1, 1) := by decide +kernel
theorem dL_law_526 : decode cL_law 526 = .ok (.iadd, 1) := by decide +kernel
theorem dL_law_527 : decode cL_law 527 = .ok (.iaload, 1) := by decide +kernel
theorem dL_law_528 : decode cL_law 528 = .ok (.aload_n 0, 1) := by decide +kernel
theorem dL_law_529 : decode cL_law 529 = .ok (.iload_n 3, 1) := by decide +kernel
theorem dL_law_530 : decode cL_law 530 = .ok (.iconst 2, 1) := by decide +kernel
theorem dL_law_531 : decode cL_law 531 = .ok (.iadd, 1) := by decide +kernel
theorem dL_law_532 : decode cL_law 532 = .ok (.iaload, 1) := by decide +kernel
theorem dL_law_533 : decode cL_law 533 = .ok (.aload_n 0, 1) := by decide +kernel
theorem dL_law_534 : decode cL_law 534 = .ok (.iload_n 3, 1) := by decide +kernel
theorem dL_law_535 : decode cL_law 535 = .ok (.iconst 3, 1) := by decide +kernel
theorem dL_law_536 : decode cL_law 536 = .ok (.iadd, 1) := by decide +kernel
theorem dL_law_537 : decode cL_law 537 = .ok (.iaload, 1) := by decide +kernel
theorem dL_law_538 : decode cL_law 538 = .ok (.ifCond .eq 7, 3) := by decide +kernel
theorem dL_law_541 : decode cL_law 541 = .ok (.iconst 1, 1) := by decide +kernel
theorem dL_law_542 : decode cL_law 542 = .ok (.goto 4, 3) := by decide +kernel
theorem dL_law_545 : decode cL_law 545 = .ok (.iconst 0, 1) := by decide +kernel
theorem dL_law_546 : decode cL_law 546 = .ok (.invokevirtual 68, 3) := by decide +kernel
theorem dL_law_549 : decode cL_law 549 = .ok (.aload_n 2, 1) := by decide +kernel
theorem dL_law_550 : decode cL_law 550 = .ok (.aload_n 0, 1) := by decide +kernel
theorem dL_law_551 : decode cL_law 551 = .ok (.iload_n 3, 1) := by decide +kernel
theorem dL_law_552 : decode cL_law 552 = .ok (.iconst 1, 1) := by decide +kernel
theorem dL_law_553 : decode cL_law 553 = .ok (.iadd, 1) := by decide +kernel
theorem dL_law_554 : decode cL_law 554 = .ok (.iaload, 1) := by decide +kernel
theorem dL_law_555 : decode cL_law 555 = .ok (.aload_n 0, 1) := by decide +kernel
theorem dL_law_556 : decode cL_law 556 = .ok (.iload_n 3, 1) := by decide +kernel
theorem dL_law_557 : decode cL_law 557 = .ok (.iconst 2, 1) := by decide +kernel
theorem dL_law_558 : decode cL_law 558 = .ok (.iadd, 1) := by decide +kernel
theorem dL_law_559 : decode cL_law 559 = .ok (.iaload, 1) := by decide +kernel
theorem dL_law_560 : decode cL_law 560 = .ok (.aload_n 0, 1) := by decide +kernel
theorem dL_law_561 : decode cL_law 561 = .ok (.iload_n 3, 1) := by decide +kernel
theorem dL_law_562 : decode cL_law 562 = .ok (.iconst 3, 1) := by decide +kernel
theorem dL_law_563 : decode cL_law 563 = .ok (.iadd, 1) := by decide +kernel
theorem dL_law_564 : decode cL_law 564 = .ok (.iaload, 1) := by decide +kernel
theorem dL_law_565 : decode cL_law 565 = .ok (.ifCond .eq 7, 3) := by decide +kernel
theorem dL_law_568 : decode cL_law 568 = .ok (.iconst 1, 1) := by decide +kernel
theorem dL_law_569 : decode cL_law 569 = .ok (.goto 4, 3) := by decide +kernel
theorem dL_law_572 : decode cL_law 572 = .ok (.iconst 0, 1) := by decide +kernel
theorem dL_law_573 : decode cL_law 573 = .ok (.invokevirtual 72, 3) := by decide +kernel
theorem dL_law_576 : decode cL_law 576 = .ok (.if_icmp .eq 312, 3) := by decide +kernel
theorem dL_law_579 : decode cL_law 579 = .ok (.iconst 0, 1) := by decide +kernel
theorem dL_law_580 : decode cL_law 580 = .ok (.ireturn, 1) := by decide +kernel
theorem dL_law_581 : decode cL_law 581 = .ok (.aload_n 1, 1) := by decide +kernel
theorem dL_law_582 : decode cL_law 582 = .ok (.aload_n 0, 1) := by decide +kernel
theorem dL_law_583 : decode cL_law 583 = .ok (.iload_n 3, 1) := by decide +kernel
theorem dL_law_584 : decode cL_law 584 = .ok (.iconst 1, 1) := by decide +kernel
theorem dL_law_585 : decode cL_law 585 = .ok (.iadd, 1) := by decide +kernel
theorem dL_law_586 : decode cL_law 586 = .ok (.iaload, 1) := by decide +kernel
theorem dL_law_587 : decode cL_law 587 = .ok (.aload_n 0, 1) := by decide +kernel
theorem dL_law_588 : decode cL_law 588 = .ok (.iload_n 3, 1) := by decide +kernel
theorem dL_law_589 : decode cL_law 589 = .ok (.iconst 2, 1) := by decide +kernel
theorem dL_law_590 : decode cL_law 590 = .ok (.iadd, 1) := by decide +kernel
theorem dL_law_591 : decode cL_law 591 = .ok (.iaload, 1) := by decide +kernel
theorem dL_law_592 : decode cL_law 592 = .ok (.invokevirtual 73, 3) := by decide +kernel
theorem dL_law_595 : decode cL_law 595 = .ok (.aload_n 2, 1) := by decide +kernel
theorem dL_law_596 : decode cL_law 596 = .ok (.aload_n 0, 1) := by decide +kernel
theorem dL_law_597 : decode cL_law 597 = .ok (.iload_n 3, 1) := by decide +kernel
theorem dL_law_598 : decode cL_law 598 = .ok (.iconst 1, 1) := by decide +kernel
theorem dL_law_599 : decode cL_law 599 = .ok (.iadd, 1) := by decide +kernel
theorem dL_law_600 : decode cL_law 600 = .ok (.iaload, 1) := by decide +kernel
theorem dL_law_601 : decode cL_law 601 = .ok (.aload_n 0, 1) := by decide +kernel
theorem dL_law_602 : decode cL_law 602 = .ok (.iload_n 3, 1) := by decide +kernel
theorem dL_law_603 : decode cL_law 603 = .ok (.iconst 2, 1) := by decide +kernel
theorem dL_law_604 : decode cL_law 604 = .ok (.iadd, 1) := by decide +kernel
theorem dL_law_605 : decode cL_law 605 = .ok (.iaload, 1) := by decide +kernel
theorem dL_law_606 : decode cL_law 606 = .ok (.invokevirtual 76, 3) := by decide +kernel
theorem dL_law_609 : decode cL_law 609 = .ok (.if_icmp .eq 279, 3) := by decide +kernel
theorem dL_law_612 : decode cL_law 612 = .ok (.iconst 0, 1) := by decide +kernel
theorem dL_law_613 : decode cL_law 613 = .ok (.ireturn, 1) := by decide +kernel
theorem dL_law_614 : decode cL_law 614 = .ok (.aload_n 1, 1) := by decide +kernel
theorem dL_law_615 : decode cL_law 615 = .ok (.aload_n 0, 1) := by decide +kernel
theorem dL_law_616 : decode cL_law 616 = .ok (.iload_n 3, 1) := by decide +kernel
theorem dL_law_617 : decode cL_law 617 = .ok (.iconst 1, 1) := by decide +kernel
theorem dL_law_618 : decode cL_law 618 = .ok (.iadd, 1) := by decide +kernel
theorem dL_law_619 : decode cL_law 619 = .ok (.iaload, 1) := by decide +kernel
theorem dL_law_620 : decode cL_law 620 = .ok (.aload_n 0, 1) := by decide +kernel
theorem dL_law_621 : decode cL_law 621 = .ok (.iload_n 3, 1) := by decide +kernel
theorem dL_law_622 : decode cL_law 622 = .ok (.iconst 2, 1) := by decide +kernel
theorem dL_law_623 : decode cL_law 623 = .ok (.iadd, 1) := by decide +kernel
theorem dL_law_624 : decode cL_law 624 = .ok (.iaload, 1) := by decide +kernel
theorem dL_law_625 : decode cL_law 625 = .ok (.invokevirtual 77, 3) := by decide +kernel
theorem dL_law_628 : decode cL_law 628 = .ok (.aload_n 2, 1) := by decide +kernel
theorem dL_law_629 : decode cL_law 629 = .ok (.aload_n 0, 1) := by decide +kernel
theorem dL_law_630 : decode cL_law 630 = .ok (.iload_n 3, 1) := by decide +kernel
theorem dL_law_631 : decode cL_law 631 = .ok (.iconst 1, 1) := by decide +kernel
theorem dL_law_632 : decode cL_law 632 = .ok (.iadd, 1) := by decide +kernel
theorem dL_law_633 : decode cL_law 633 = .ok (.iaload, 1) := by decide +kernel
theorem dL_law_634 : decode cL_law 634 = .ok (.aload_n 0, 1) := by decide +kernel
theorem dL_law_635 : decode cL_law 635 = .ok (.iload_n 3, 1) := by decide +kernel
theorem dL_law_636 : decode cL_law 636 = .ok (.iconst 2, 1) := by decide +kernel
theorem dL_law_637 : decode cL_law 637 = .ok (.iadd, 1) := by decide +kernel
theorem dL_law_638 : decode cL_law 638 = .ok (.iaload, 1) := by decide +kernel
theorem dL_law_639 : decode cL_law 639 = .ok (.invokevirtual 80, 3) := by decide +kernel
theorem dL_law_642 : decode cL_law 642 = .ok (.if_icmp .eq 246, 3) := by decide +kernel
theorem dL_law_645 : decode cL_law 645 = .ok (.iconst 0, 1) := by decide +kernel
theorem dL_law_646 : decode cL_law 646 = .ok (.ireturn, 1) := by decide +kernel
theorem dL_law_647 : decode cL_law 647 = .ok (.aload_n 1, 1) := by decide +kernel
theorem dL_law_648 : decode cL_law 648 = .ok (.aload_n 0, 1) := by decide +kernel
theorem dL_law_649 : decode cL_law 649 = .ok (.iload_n 3, 1) := by decide +kernel
theorem dL_law_650 : decode cL_law 650 = .ok (.iconst 1, 1) := by decide +kernel
theorem dL_law_651 : decode cL_law 651 = .ok (.iadd, 1) := by decide +kernel
theorem dL_law_652 : decode cL_law 652 = .ok (.iaload, 1) := by decide +kernel
theorem dL_law_653 : decode cL_law 653 = .ok (.aload_n 0, 1) := by decide +kernel
theorem dL_law_654 : decode cL_law 654 = .ok (.iload_n 3, 1) := by decide +kernel
theorem dL_law_655 : decode cL_law 655 = .ok (.iconst 2, 1) := by decide +kernel
theorem dL_law_656 : decode cL_law 656 = .ok (.iadd, 1) := by decide +kernel
theorem dL_law_657 : decode cL_law 657 = .ok (.iaload, 1) := by decide +kernel
theorem dL_law_658 : decode cL_law 658 = .ok (.invokevirtual 81, 3) := by decide +kernel
theorem dL_law_661 : decode cL_law 661 = .ok (.aload_n 2, 1) := by decide +kernel
theorem dL_law_662 : decode cL_law 662 = .ok (.aload_n 0, 1) := by decide +kernel
theorem dL_law_663 : decode cL_law 663 = .ok (.iload_n 3, 1) := by decide +kernel
theorem dL_law_664 : decode cL_law 664 = .ok (.iconst 1, 1) := by decide +kernel
theorem dL_law_665 : decode cL_law 665 = .ok (.iadd, 1) := by decide +kernel
theorem dL_law_666 : decode cL_law 666 = .ok (.iaload, 1) := by decide +kernel
theorem dL_law_667 : decode cL_law 667 = .ok (.aload_n 0, 1) := by decide +kernel
theorem dL_law_668 : decode cL_law 668 = .ok (.iload_n 3, 1) := by decide +kernel
theorem dL_law_669 : decode cL_law 669 = .ok (.iconst 2, 1) := by decide +kernel
theorem dL_law_670 : decode cL_law 670 = .ok (.iadd, 1) := by decide +kernel
theorem dL_law_671 : decode cL_law 671 = .ok (.iaload, 1) := by decide +kernel
theorem dL_law_672 : decode cL_law 672 = .ok (.invokevirtual 84, 3) := by decide +kernel
theorem dL_law_675 : decode cL_law 675 = .ok (.if_icmp .eq 213, 3) := by decide +kernel
theorem dL_law_678 : decode cL_law 678 = .ok (.iconst 0, 1) := by decide +kernel
theorem dL_law_679 : decode cL_law 679 = .ok (.ireturn, 1) := by decide +kernel
theorem dL_law_680 : decode cL_law 680 = .ok (.aload_n 1, 1) := by decide +kernel
theorem dL_law_681 : decode cL_law 681 = .ok (.aload_n 0, 1) := by decide +kernel
theorem dL_law_682 : decode cL_law 682 = .ok (.iload_n 3, 1) := by decide +kernel
theorem dL_law_683 : decode cL_law 683 = .ok (.iconst 1, 1) := by decide +kernel
theorem dL_law_684 : decode cL_law 684 = .ok (.iadd, 1) := by decide +kernel
theorem dL_law_685 : decode cL_law 685 = .ok (.iaload, 1) := by decide +kernel
theorem dL_law_686 : decode cL_law 686 = .ok (.invokevirtual 85, 3) := by decide +kernel
theorem dL_law_689 : decode cL_law 689 = .ok (.aload_n 2, 1) := by decide +kernel
theorem dL_law_690 : decode cL_law 690 = .ok (.aload_n 0, 1) := by decide +kernel
theorem dL_law_691 : decode cL_law 691 = .ok (.iload_n 3, 1) := by decide +kernel
theorem dL_law_692 : decode cL_law 692 = .ok (.iconst 1, 1) := by decide +kernel
theorem dL_law_693 : decode cL_law 693 = .ok (.iadd, 1) := by decide +kernel
theorem dL_law_694 : decode cL_law 694 = .ok (.iaload, 1) := by decide +kernel
theorem dL_law_695 : decode cL_law 695 = .ok (.invokevirtual 88, 3) := by decide +kernel
theorem dL_law_698 : decode cL_law 698 = .ok (.if_icmp .eq 190, 3) := by decide +kernel
theorem dL_law_701 : decode cL_law 701 = .ok (.iconst 0, 1) := by decide +kernel
theorem dL_law_702 : decode cL_law 702 = .ok (.ireturn, 1) := by decide +kernel
theorem dL_law_703 : decode cL_law 703 = .ok (.aload_n 1, 1) := by decide +kernel
theorem dL_law_704 : decode cL_law 704 = .ok (.aload_n 0, 1) := by decide +kernel
theorem dL_law_705 : decode cL_law 705 = .ok (.iload_n 3, 1) := by decide +kernel
theorem dL_law_706 : decode cL_law 706 = .ok (.iconst 1, 1) := by decide +kernel
theorem dL_law_707 : decode cL_law 707 = .ok (.iadd, 1) := by decide +kernel
theorem dL_law_708 : decode cL_law 708 = .ok (.iaload, 1) := by decide +kernel
theorem dL_law_709 : decode cL_law 709 = .ok (.aload_n 0, 1) := by decide +kernel
theorem dL_law_710 : decode cL_law 710 = .ok (.iload_n 3, 1) := by decide +kernel
theorem dL_law_711 : decode cL_law 711 = .ok (.iconst 2, 1) := by decide +kernel
theorem dL_law_712 : decode cL_law 712 = .ok (.iadd, 1) := by decide +kernel
theorem dL_law_713 : decode cL_law 713 = .ok (.iaload, 1) := by decide +kernel
theorem dL_law_714 : decode cL_law 714 = .ok (.ifCond .eq 7, 3) := by decide +kernel
theorem dL_law_717 : decode cL_law 717 = .ok (.iconst 1, 1) := by decide +kernel
theorem dL_law_718 : decode cL_law 718 = .ok (.goto 4, 3) := by decide +kernel
theorem dL_law_721 : decode cL_law 721 = .ok (.iconst 0, 1) := by decide +kernel
theorem dL_law_722 : decode cL_law 722 = .ok (.invokevirtual 89, 3) := by decide +kernel
theorem dL_law_725 : decode cL_law 725 = .ok (.aload_n 2, 1) := by decide +kernel
theorem dL_law_726 : decode cL_law 726 = .ok (.aload_n 0, 1) := by decide +kernel
theorem dL_law_727 : decode cL_law 727 = .ok (.iload_n 3, 1) := by decide +kernel
theorem dL_law_728 : decode cL_law 728 = .ok (.iconst 1, 1) := by decide +kernel
theorem dL_law_729 : decode cL_law 729 = .ok (.iadd, 1) := by decide +kernel
theorem dL_law_730 : decode cL_law 730 = .ok (.iaload, 1) := by decide +kernel
theorem dL_law_731 : decode cL_law 731 = .ok (.aload_n 0, 1) := by decide +kernel
theorem dL_law_732 : decode cL_law 732 = .ok (.iload_n 3, 1) := by decide +kernel
theorem dL_law_733 : decode cL_law 733 = .ok (.iconst 2, 1) := by decide +kernel
theorem dL_law_734 : decode cL_law 734 = .ok (.iadd, 1) := by decide +kernel
theorem dL_law_735 : decode cL_law 735 = .ok (.iaload, 1) := by decide +kernel
theorem dL_law_736 : decode cL_law 736 = .ok (.ifCond .eq 7, 3) := by decide +kernel
theorem dL_law_739 : decode cL_law 739 = .ok (.iconst 1, 1) := by decide +kernel
theorem dL_law_740 : decode cL_law 740 = .ok (.goto 4, 3) := by decide +kernel
theorem dL_law_743 : decode cL_law 743 = .ok (.iconst 0, 1) := by decide +kernel
theorem dL_law_744 : decode cL_law 744 = .ok (.invokevirtual 93, 3) := by decide +kernel
theorem dL_law_747 : decode cL_law 747 = .ok (.if_icmp .eq 141, 3) := by decide +kernel
theorem dL_law_750 : decode cL_law 750 = .ok (.iconst 0, 1) := by decide +kernel
theorem dL_law_751 : decode cL_law 751 = .ok (.ireturn, 1) := by decide +kernel
theorem dL_law_752 : decode cL_law 752 = .ok (.aload_n 1, 1) := by decide +kernel
theorem dL_law_753 : decode cL_law 753 = .ok (.aload_n 0, 1) := by decide +kernel
theorem dL_law_754 : decode cL_law 754 = .ok (.iload_n 3, 1) := by decide +kernel
theorem dL_law_755 : decode cL_law 755 = .ok (.iconst 1, 1) := by decide +kernel
theorem dL_law_756 : decode cL_law 756 = .ok (.iadd, 1) := by decide +kernel
theorem dL_law_757 : decode cL_law 757 = .ok (.iaload, 1) := by decide +kernel
theorem dL_law_758 : decode cL_law 758 = .ok (.aload_n 0, 1) := by decide +kernel
theorem dL_law_759 : decode cL_law 759 = .ok (.iload_n 3, 1) := by decide +kernel
theorem dL_law_760 : decode cL_law 760 = .ok (.iconst 2, 1) := by decide +kernel
theorem dL_law_761 : decode cL_law 761 = .ok (.iadd, 1) := by decide +kernel
theorem dL_law_762 : decode cL_law 762 = .ok (.iaload, 1) := by decide +kernel
theorem dL_law_763 : decode cL_law 763 = .ok (.invokevirtual 94, 3) := by decide +kernel
theorem dL_law_766 : decode cL_law 766 = .ok (.aload_n 2, 1) := by decide +kernel
theorem dL_law_767 : decode cL_law 767 = .ok (.aload_n 0, 1) := by decide +kernel
theorem dL_law_768 : decode cL_law 768 = .ok (.iload_n 3, 1) := by decide +kernel
theorem dL_law_769 : decode cL_law 769 = .ok (.iconst 1, 1) := by decide +kernel
theorem dL_law_770 : decode cL_law 770 = .ok (.iadd, 1) := by decide +kernel
theorem dL_law_771 : decode cL_law 771 = .ok (.iaload, 1) := by decide +kernel
theorem dL_law_772 : decode cL_law 772 = .ok (.aload_n 0, 1) := by decide +kernel
theorem dL_law_773 : decode cL_law 773 = .ok (.iload_n 3, 1) := by decide +kernel
theorem dL_law_774 : decode cL_law 774 = .ok (.iconst 2, 1) := by decide +kernel
theorem dL_law_775 : decode cL_law 775 = .ok (.iadd, 1) := by decide +kernel
theorem dL_law_776 : decode cL_law 776 = .ok (.iaload, 1) := by decide +kernel
theorem dL_law_777 : decode cL_law 777 = .ok (.invokevirtual 97, 3) := by decide +kernel
theorem dL_law_780 : decode cL_law 780 = .ok (.if_icmp .eq 108, 3) := by decide +kernel
theorem dL_law_783 : decode cL_law 783 = .ok (.iconst 0, 1) := by decide +kernel
theorem dL_law_784 : decode cL_law 784 = .ok (.ireturn, 1) := by decide +kernel
theorem dL_law_785 : decode cL_law 785 = .ok (.aload_n 1, 1) := by decide +kernel
theorem dL_law_786 : decode cL_law 786 = .ok (.aload_n 0, 1) := by decide +kernel
theorem dL_law_787 : decode cL_law 787 = .ok (.iload_n 3, 1) := by decide +kernel
theorem dL_law_788 : decode cL_law 788 = .ok (.iconst 1, 1) := by decide +kernel
theorem dL_law_789 : decode cL_law 789 = .ok (.iadd, 1) := by decide +kernel
theorem dL_law_790 : decode cL_law 790 = .ok (.iaload, 1) := by decide +kernel
theorem dL_law_791 : decode cL_law 791 = .ok (.aload_n 0, 1) := by decide +kernel
theorem dL_law_792 : decode cL_law 792 = .ok (.iload_n 3, 1) := by decide +kernel
theorem dL_law_793 : decode cL_law 793 = .ok (.iconst 2, 1) := by decide +kernel
theorem dL_law_794 : decode cL_law 794 = .ok (.iadd, 1) := by decide +kernel
theorem dL_law_795 : decode cL_law 795 = .ok (.iaload, 1) := by decide +kernel
theorem dL_law_796 : decode cL_law 796 = .ok (.aload_n 0, 1) := by decide +kernel
theorem dL_law_797 : decode cL_law 797 = .ok (.iload_n 3, 1) := by decide +kernel
theorem dL_law_798 : decode cL_law 798 = .ok (.iconst 3, 1) := by decide +kernel
theorem dL_law_799 : decode cL_law 799 = .ok (.iadd, 1) := by decide +kernel
theorem dL_law_800 : decode cL_law 800 = .ok (.iaload, 1) := by decide +kernel
theorem dL_law_801 : decode cL_law 801 = .ok (.invokevirtual 98, 3) := by decide +kernel
theorem dL_law_804 : decode cL_law 804 = .ok (.aload_n 2, 1) := by decide +kernel
theorem dL_law_805 : decode cL_law 805 = .ok (.aload_n 0, 1) := by decide +kernel
theorem dL_law_806 : decode cL_law 806 = .ok (.iload_n 3, 1) := by decide +kernel
theorem dL_law_807 : decode cL_law 807 = .ok (.iconst 1, 1) := by decide +kernel
theorem dL_law_808 : decode cL_law 808 = .ok (.iadd, 1) := by decide +kernel
theorem dL_law_809 : decode cL_law 809 = .ok (.iaload, 1) := by decide +kernel
theorem dL_law_810 : decode cL_law 810 = .ok (.aload_n 0, 1) := by decide +kernel
theorem dL_law_811 : decode cL_law 811 = .ok (.iload_n 3, 1) := by decide +kernel
theorem dL_law_812 : decode cL_law 812 = .ok (.iconst 2, 1) := by decide +kernel
theorem dL_law_813 : decode cL_law 813 = .ok (.iadd, 1) := by decide +kernel
theorem dL_law_814 : decode cL_law 814 = .ok (.iaload, 1) := by decide +kernel
theorem dL_law_815 : decode cL_law 815 = .ok (.aload_n 0, 1) := by decide +kernel
theorem dL_law_816 : decode cL_law 816 = .ok (.iload_n 3, 1) := by decide +kernel
theorem dL_law_817 : decode cL_law 817 = .ok (.iconst 3, 1) := by decide +kernel
theorem dL_law_818 : decode cL_law 818 = .ok (.iadd, 1) := by decide +kernel
theorem dL_law_819 : decode cL_law 819 = .ok (.iaload, 1) := by decide +kernel
theorem dL_law_820 : decode cL_law 820 = .ok (.invokevirtual 102, 3) := by decide +kernel
theorem dL_law_823 : decode cL_law 823 = .ok (.if_icmp .eq 65, 3) := by decide +kernel
theorem dL_law_826 : decode cL_law 826 = .ok (.iconst 0, 1) := by decide +kernel
theorem dL_law_827 : decode cL_law 827 = .ok (.ireturn, 1) := by decide +kernel
theorem dL_law_828 : decode cL_law 828 = .ok (.aload_n 1, 1) := by decide +kernel
theorem dL_law_829 : decode cL_law 829 = .ok (.aload_n 0, 1) := by decide +kernel
theorem dL_law_830 : decode cL_law 830 = .ok (.iload_n 3, 1) := by decide +kernel
theorem dL_law_831 : decode cL_law 831 = .ok (.iconst 1, 1) := by decide +kernel
theorem dL_law_832 : decode cL_law 832 = .ok (.iadd, 1) := by decide +kernel
theorem dL_law_833 : decode cL_law 833 = .ok (.iaload, 1) := by decide +kernel
theorem dL_law_834 : decode cL_law 834 = .ok (.invokevirtual 103, 3) := by decide +kernel
theorem dL_law_837 : decode cL_law 837 = .ok (.aload_n 2, 1) := by decide +kernel
theorem dL_law_838 : decode cL_law 838 = .ok (.aload_n 0, 1) := by decide +kernel
theorem dL_law_839 : decode cL_law 839 = .ok (.iload_n 3, 1) := by decide +kernel
theorem dL_law_840 : decode cL_law 840 = .ok (.iconst 1, 1) := by decide +kernel
theorem dL_law_841 : decode cL_law 841 = .ok (.iadd, 1) := by decide +kernel
theorem dL_law_842 : decode cL_law 842 = .ok (.iaload, 1) := by decide +kernel
theorem dL_law_843 : decode cL_law 843 = .ok (.invokevirtual 106, 3) := by decide +kernel
theorem dL_law_846 : decode cL_law 846 = .ok (.if_icmp .eq 42, 3) := by decide +kernel
theorem dL_law_849 : decode cL_law 849 = .ok (.iconst 0, 1) := by decide +kernel
theorem dL_law_850 : decode cL_law 850 = .ok (.ireturn, 1) := by decide +kernel
theorem dL_law_851 : decode cL_law 851 = .ok (.aload_n 1, 1) := by decide +kernel
theorem dL_law_852 : decode cL_law 852 = .ok (.aload_n 0, 1) := by decide +kernel
theorem dL_law_853 : decode cL_law 853 = .ok (.iload_n 3, 1) := by decide +kernel
theorem dL_law_854 : decode cL_law 854 = .ok (.iconst 1, 1) := by decide +kernel
theorem dL_law_855 : decode cL_law 855 = .ok (.iadd, 1) := by decide +kernel
theorem dL_law_856 : decode cL_law 856 = .ok (.iaload, 1) := by decide +kernel
theorem dL_law_857 : decode cL_law 857 = .ok (.invokevirtual 107, 3) := by decide +kernel
theorem dL_law_860 : decode cL_law 860 = .ok (.aload_n 2, 1) := by decide +kernel
theorem dL_law_861 : decode cL_law 861 = .ok (.aload_n 0, 1) := by decide +kernel
theorem dL_law_862 : decode cL_law 862 = .ok (.iload_n 3, 1) := by decide +kernel
theorem dL_law_863 : decode cL_law 863 = .ok (.iconst 1, 1) := by decide +kernel
theorem dL_law_864 : decode cL_law 864 = .ok (.iadd, 1) := by decide +kernel
theorem dL_law_865 : decode cL_law 865 = .ok (.iaload, 1) := by decide +kernel
theorem dL_law_866 : decode cL_law 866 = .ok (.invokevirtual 110, 3) := by decide +kernel
theorem dL_law_869 : decode cL_law 869 = .ok (.if_icmp .eq 19, 3) := by decide +kernel
theorem dL_law_872 : decode cL_law 872 = .ok (.iconst 0, 1) := by decide +kernel
theorem dL_law_873 : decode cL_law 873 = .ok (.ireturn, 1) := by decide +kernel
theorem dL_law_874 : decode cL_law 874 = .ok (.aload_n 1, 1) := by decide +kernel
theorem dL_law_875 : decode cL_law 875 = .ok (.invokevirtual 111, 3) := by decide +kernel
theorem dL_law_878 : decode cL_law 878 = .ok (.aload_n 2, 1) := by decide +kernel
theorem dL_law_879 : decode cL_law 879 = .ok (.invokevirtual 115, 3) := by decide +kernel
theorem dL_law_882 : decode cL_law 882 = .ok (.lcmp, 1) := by decide +kernel
theorem dL_law_883 : decode cL_law 883 = .ok (.ifCond .eq 5, 3) := by decide +kernel
theorem dL_law_886 : decode cL_law 886 = .ok (.iconst 0, 1) := by decide +kernel
theorem dL_law_887 : decode cL_law 887 = .ok (.ireturn, 1) := by decide +kernel
theorem dL_law_888 : decode cL_law 888 = .ok (.iinc 3 9, 3) := by decide +kernel
theorem dL_law_891 : decode cL_law 891 = .ok (.goto (-873), 3) := by decide +kernel
theorem dL_law_894 : decode cL_law 894 = .ok (.iconst 1, 1) := by decide +kernel
theorem dL_law_895 : decode cL_law 895 = .ok (.ireturn, 1) := by decide +kernel
end
section
/-! the state of the system: numbers (fields that never are below 0), arrays, longs, the one raw int; the world that it is in the heap -/
abbrev GT : Type := va_G × ClassId × ClassId × (Nat → Nat) × Nat
abbrev St : Type := (Nat → Nat) × (Nat → Nat → Int32) × (Nat → Int64) × (Nat → Int32)
def gad (G : GT) (k : Nat) : Nat := G.2.2.2.1 k
def gci (G : GT) : ClassId := G.2.1
def gcz (G : GT) : ClassId := G.2.2.1
def gtq (G : GT) : Nat := G.2.2.2.2
def gty (G : GT) : List (ClassId × FieldType) := [(gci G, .int), (gcz G, .boolean)]
def gpull (j : Nat) : Int32 := if j = 0 then 10 else if j = 1 then 30 else 40
def sN (S : St) (k : Nat) (v : Nat) : St := (fun j => if j = k then v else S.1 j, S.2.1, S.2.2.1, S.2.2.2)
def sA (S : St) (k i : Nat) (v : Int32) : St := (S.1, fun j => if j = k then upd (S.2.1 k) i v else S.2.1 j, S.2.2.1, S.2.2.2)
def sL (S : St) (k : Nat) (v : Int64) : St := (S.1, S.2.1, fun j => if j = k then v else S.2.2.1 j, S.2.2.2)
def sR (S : St) (k : Nat) (v : Int32) : St := (S.1, S.2.1, S.2.2.1, fun j => if j = k then v else S.2.2.2 j)
def bI (b : Bool) : Int32 := match b with
  | true => 1
  | false => 0
def gws (G : GT) (S : St) : va_W := [(gad G 0, .inr (7, [.ref (gad G 1), .ref (gad G 2), .ref (gad G 3), .ref (gad G 4), .ref (gad G 5), .ref (gad G 6), .ref (gad G 7), .ref (gad G 9), .int (nI (S.1 0)), .int (nI (S.1 1)), .long (S.2.2.1 0)])),
  (gad G 1, .inr (0, [.ref (gad G 10), .int (nI (S.1 2)), .ref (gad G 11), .ref (gad G 12), .ref (gad G 13), .int (nI (S.1 3)), .int (nI (S.1 4)), .int (S.2.2.2 0), .int (nI (S.1 5))])),
  (gad G 2, .inr (3, [.ref (gad G 14), .ref (gad G 15), .ref (gad G 16), .ref (gad G 17), .ref (gad G 18), .int (nI (S.1 6))])),
  (gad G 3, .inr (2, [.ref (gad G 19), .ref (gad G 20), .ref (gad G 21), .ref (gad G 22), .ref (gad G 23), .ref (gad G 24), .ref (gad G 25), .ref (gad G 26), .ref (gad G 27), .ref (gad G 28), .ref (gad G 29), .int (nI (S.1 7))])),
  (gad G 4, .inr (4, [.ref (gad G 30), .ref (gad G 31), .ref (gad G 32), .ref (gad G 33), .int (nI (S.1 8))])),
  (gad G 5, .inr (1, [.ref (gad G 34), .ref (gad G 35), .int (nI (S.1 9))])),
  (gad G 6, .inr (5, [.ref (gad G 36), .ref (gad G 37), .ref (gad G 38), .ref (gad G 39), .int (nI (S.1 10))])),
  (gad G 7, .inr (6, [.ref (gad G 40), .ref (gad G 41), .ref (gad G 42), .ref (gad G 43), .ref (gad G 44), .ref (gad G 45), .int (nI (S.1 11)), .int (nI (S.1 12))])),
  (gad G 8, .inr (8, [.int (nI (S.1 13)), .int (nI (S.1 14)), .ref (gad G 46), .int (nI (S.1 15)), .int (nI (S.1 16)), .ref (gad G 47), .ref (gad G 48), .ref (gad G 49), .ref (gad G 50), .ref (gad G 51), .int (nI (S.1 17)), .int (nI (S.1 18)), .ref (gad G 52), .int (nI (S.1 19)), .ref (gad G 53), .int (nI (S.1 20)), .ref (gad G 54), .int (nI (S.1 21)), .ref (gad G 55), .int (nI (S.1 22)), .ref (gad G 56), .int (nI (S.1 23)), .ref (gad G 57), .ref (gad G 58), .ref (gad G 59), .int (nI (S.1 24)), .long (S.2.2.1 1)])),
  (gad G 9, .inl (gcz G, 4, .inl (S.2.1 9))),
  (gad G 10, .inl (gci G, 60, .inl (S.2.1 10))),
  (gad G 11, .inl (gci G, 30, .inl (S.2.1 11))),
  (gad G 12, .inl (gci G, 30, .inl (S.2.1 12))),
  (gad G 13, .inl (gci G, 30, .inl (S.2.1 13))),
  (gad G 14, .inl (gci G, 6, .inl (S.2.1 14))),
  (gad G 15, .inl (gci G, 7, .inl (S.2.1 15))),
  (gad G 16, .inl (gci G, 180, .inl (S.2.1 16))),
  (gad G 17, .inl (gci G, 180, .inl (S.2.1 17))),
  (gad G 18, .inl (gci G, 180, .inl (S.2.1 18))),
  (gad G 19, .inl (gci G, 12, .inl (S.2.1 19))),
  (gad G 20, .inl (gci G, 12, .inl (S.2.1 20))),
  (gad G 21, .inl (gci G, 12, .inl (S.2.1 21))),
  (gad G 22, .inl (gci G, 12, .inl (S.2.1 22))),
  (gad G 23, .inl (gci G, 12, .inl (S.2.1 23))),
  (gad G 24, .inl (gci G, 12, .inl (S.2.1 24))),
  (gad G 25, .inl (gci G, 12, .inl (S.2.1 25))),
  (gad G 26, .inl (gci G, 12, .inl (S.2.1 26))),
  (gad G 27, .inl (gci G, 12, .inl (S.2.1 27))),
  (gad G 28, .inl (gci G, 12, .inl (S.2.1 28))),
  (gad G 29, .inl (gci G, 12, .inl (S.2.1 29))),
  (gad G 30, .inl (gci G, 30, .inl (S.2.1 30))),
  (gad G 31, .inl (gci G, 30, .inl (S.2.1 31))),
  (gad G 32, .inl (gci G, 30, .inl (S.2.1 32))),
  (gad G 33, .inl (gci G, 30, .inl (S.2.1 33))),
  (gad G 34, .inl (gci G, 10, .inl (S.2.1 34))),
  (gad G 35, .inl (gci G, 10, .inl (S.2.1 35))),
  (gad G 36, .inl (gci G, 100, .inl (S.2.1 36))),
  (gad G 37, .inl (gci G, 100, .inl (S.2.1 37))),
  (gad G 38, .inl (gci G, 100, .inl (S.2.1 38))),
  (gad G 39, .inl (gci G, 100, .inl (S.2.1 39))),
  (gad G 40, .inl (gci G, 6, .inl (S.2.1 40))),
  (gad G 41, .inl (gci G, 6, .inl (S.2.1 41))),
  (gad G 42, .inl (gci G, 6, .inl (S.2.1 42))),
  (gad G 43, .inl (gcz G, 6, .inl (S.2.1 43))),
  (gad G 44, .inl (gci G, 6, .inl (S.2.1 44))),
  (gad G 45, .inl (gci G, 6, .inl (S.2.1 45))),
  (gad G 46, .inl (gci G, 60, .inl (S.2.1 46))),
  (gad G 47, .inl (gci G, 6, .inl (S.2.1 47))),
  (gad G 48, .inl (gci G, 7, .inl (S.2.1 48))),
  (gad G 49, .inl (gci G, 240, .inl (S.2.1 49))),
  (gad G 50, .inl (gci G, 240, .inl (S.2.1 50))),
  (gad G 51, .inl (gci G, 240, .inl (S.2.1 51))),
  (gad G 52, .inl (gci G, 132, .inl (S.2.1 52))),
  (gad G 53, .inl (gci G, 120, .inl (S.2.1 53))),
  (gad G 54, .inl (gci G, 20, .inl (S.2.1 54))),
  (gad G 55, .inl (gci G, 400, .inl (S.2.1 55))),
  (gad G 56, .inl (gcz G, 4, .inl (S.2.1 56))),
  (gad G 57, .inl (gci G, 6, .inl (S.2.1 57))),
  (gad G 58, .inl (gci G, 6, .inl (S.2.1 58))),
  (gad G 59, .inl (gci G, 6, .inl (S.2.1 59)))]
def gInj (G : GT) : Prop := ∀ i j : Nat, i < 60 → j < 60 → gad G i = gad G j → i = j
def gA (G : GT) (sz : Nat) : Nat → Prop := fun q => (∃ k : Nat, k < 60 ∧ q = gad G k) ∨ sz ≤ q
def gSt (G : GT) (A : Nat → Prop) (U : State) (H : Heap) : Prop := va_Z "FlueRounds$Flues" "PULL_OF_FUEL" "[I" (.ref (gtq G)) A U H ∧ va_T .int (gtq G) 3 (fun j => .int (gpull j)) A U H
theorem gws_at {G : GT} {S : St} {k : Nat} {q : Nat × va_E} (h : (gws G S)[k]? = some q) : k < 60 ∧ q.1 = gad G k := by
  have h1 : ((gws G S).map (fun x => x.1))[k]? = some q.1 := by rw [List.getElem?_map, h]; rfl
  rw [show (gws G S).map (fun x => x.1) = (List.range 60).map (gad G) from rfl, List.getElem?_map] at h1
  by_cases hk : k < 60
  · rw [List.getElem?_range hk] at h1
    exact ⟨hk, (Option.some.inj h1).symm⟩
  · rw [List.getElem?_eq_none (by simpa using hk)] at h1
    cases h1
theorem gws_D {G : GT} {S : St} {A : Nat → Prop} (hi : gInj G) (hA : ∀ k : Nat, k < 60 → A (gad G k)) : va_D A (gws G S) := by
  refine ⟨fun i j p q h1 h2 h3 => ?_, fun k q h => ?_⟩
  · obtain ⟨a1, a2⟩ := gws_at h1
    obtain ⟨b1, b2⟩ := gws_at h2
    exact hi i j a1 b1 (by rw [← a2, ← b2]; exact h3)
  · obtain ⟨a1, a2⟩ := gws_at h
    rw [a2]
    exact hA k a1
/-! the locals: a value at its place; null says nothing -/
def hasL (ls : Array Slot) (nL : Nat) (L : List Value) : Prop := ls.size = nL ∧ lv_wf ls ∧ ∀ (i : Nat) (v : Value), L[i]? = some v → v = .null ∨ ls[i]? = some (.val v)
theorem hasL.get {ls : Array Slot} {nL : Nat} {L : List Value} (h : hasL ls nL L) {i : Nat} {v : Value} (hi : L[i]? = some v) (hv : v ≠ .null) : ls[i]? = some (.val v) := (h.2.2 i v hi).resolve_left hv
def toLv (L : List Value) (n : Nat) : List (Nat × Value) := (List.range n).filterMap (fun i => match (L[i]? : Option Value) with
  | some Value.null => none
  | some v => some (i, v)
  | none => none)
theorem toLv_mem {L : List Value} {n : Nat} {q : Nat × Value} : q ∈ toLv L n ↔ q.1 < n ∧ L[q.1]? = some q.2 ∧ q.2 ≠ .null := by
  obtain ⟨a, b⟩ := q
  simp only [toLv, List.mem_filterMap, List.mem_range]
  constructor
  · rintro ⟨i, hi, h⟩
    split at h
    · cases h
    · rename_i v hv hn
      cases h
      exact ⟨hi, hn, hv⟩
    · cases h
  · rintro ⟨h1, h2, h3⟩
    refine ⟨a, h1, ?_⟩
    rw [show L[a]? = some b from h2]
    cases b <;> first | rfl | exact absurd rfl h3
theorem prevOK {L : List Value} {a : Value} {i : Nat} (h : L[i]? = some a) (hc : a.category = 1) : ∀ (j : Nat) (w : Value), j + 1 = i + 1 → L[j]? = some w → w.category = 1 := by
  intro j w hj hw
  have : j = i := by omega
  subst this
  rw [h] at hw
  cases hw
  exact hc
theorem hasL.lv {ls : Array Slot} {nL : Nat} {L : List Value} (h : hasL ls nL L) (n : Nat) : lv_has ls nL (toLv L n) :=
  ⟨h.1, h.2.1, fun q hq => by obtain ⟨h1, h2, h3⟩ := toLv_mem.mp hq; exact h.get h2 h3⟩
theorem hasL.back {ls : Array Slot} {nL : Nat} {L L' : List Value} {i n : Nat} {v : Value} (h : lv_has ls nL ((i, v) :: (toLv L n).filter (fun q => !(q.1 == i) && !(q.1 + 1 == i && q.2.category == 2))))
    (h2 : ∀ (j : Nat) (w : Value), L'[j]? = some w → w = .null ∨ (j = i ∧ w = v) ∨ (j ≠ i ∧ L[j]? = some w ∧ j < n ∧ ¬ (j + 1 = i ∧ w.category = 2))) : hasL ls nL L' := by
  refine ⟨h.1, h.2.1, fun j w hj => ?_⟩
  rcases h2 j w hj with a | ⟨a, b⟩ | ⟨a, b, c, d⟩
  · exact Or.inl a
  · subst a; subst b
    exact Or.inr (h.2.2 _ List.mem_cons_self)
  · by_cases hw : w = .null
    · exact Or.inl hw
    · refine Or.inr (h.2.2 (j, w) (List.mem_cons_of_mem _ (List.mem_filter.mpr ⟨toLv_mem.mpr ⟨c, b, hw⟩, ?_⟩)))
      simp only [Bool.and_eq_true, Bool.not_eq_true', beq_eq_false_iff_ne, ne_eq, Bool.and_eq_false_iff]
      refine ⟨a, ?_⟩
      by_cases e : j + 1 = i
      · exact Or.inr (fun z => d ⟨e, z⟩)
      · exact Or.inl e
theorem hasL.set {ls' : Array Slot} {nL : Nat} {L : List Value} {i : Nat} {v : Value} (h : lv_has ls' nL ((i, v) :: (toLv L L.length).filter (fun q => !(q.1 == i) && !(q.1 + 1 == i && q.2.category == 2)))) (hc : ∀ (j : Nat) (w : Value), j + 1 = i → L[j]? = some w → w.category = 1) : hasL ls' nL (L.set i v) := by
  refine hasL.back h (fun j w hj => ?_)
  by_cases e : j = i
  · subst e
    by_cases hl : j < L.length
    · rw [List.getElem?_set_self hl] at hj
      exact Or.inr (Or.inl ⟨rfl, (Option.some.inj hj).symm⟩)
    · rw [List.getElem?_eq_none (by simpa using hl)] at hj
      cases hj
  · rw [List.getElem?_set_ne (Ne.symm e)] at hj
    refine Or.inr (Or.inr ⟨e, hj, (List.getElem?_eq_some_iff.mp hj).1, fun z => ?_⟩)
    have := hc j w z.1 hj
    omega
theorem hasL.entry (vs : List Value) {n : Nat} (h : (lg_sl vs).length ≤ n) {L : List Value} (hL : ∀ (i : Nat) (v : Value), L[i]? = some v → v = .null ∨ (i, v) ∈ lv_args 0 vs) : hasL ((lg_sl vs ++ List.replicate (n - (lg_sl vs).length) Slot.unset).toArray) n L := by
  have h1 := lv_entry vs h
  exact ⟨h1.1, h1.2.1, fun i v hi => (hL i v hi).imp id (fun q => h1.2.2 (i, v) q)⟩
def inB (L : List Value) (l : List (Nat × Value)) : Prop := ∀ (i : Nat) (v : Value), L[i]? = some v → v = .null ∨ (i, v) ∈ l
/-- the tables' words that stay good at every call -/
def gtbl : List Cond := lw_tbl.filter goodWord
/-! the judgement: from pc, with locals L, stack st, state S, the machine comes to Q -/
abbrev XT : Type := Program × Launch × Env × Room × State × MethodId × Array Value × List Frame × Method × Code × Nat × Nat × (State → Prop) × (Nat → Prop)
def AW (X : XT) (G : GT) (pc : Nat) (L st : List Value) (S : St) : Prop := match X with
  | (p, l, e, R, s, m, args, below, meth, c, cells, slots, Q, A) => ∀ (H : Heap) (locs : List Loc) (ls : Array Slot), va_P G.1 vwCl (gws G S) H → va_S A s.heap H locs → hasL ls c.maxLocals L → W p l e R s m args below meth c H locs cells slots Q (F0 m pc ls st)
def XC (X : XT) (G : GT) (d : Nat) (own : String) (cc : ByteArray) (nL : Nat) : Prop := match X with
  | (p, l, e, R, s, m, args, below, meth, c, cells, slots, Q, A) => p.tables.exec = Jvm.exec ∧ c.code = cc ∧ c.maxLocals = nL ∧ s.vm.findClass own = some m.cls ∧ (∀ w ∈ gtbl, w.before args s = true) ∧ va_K G.1 vwCl (gty G) s ∧ gInj G ∧ (∀ k : Nat, k < 60 → A (gad G k)) ∧ (∀ q : Nat, s.heap.size ≤ q → A q) ∧ gSt G A s s.heap ∧ d + 1 ≤ R.frames ∧ 64 * (d + 1) ≤ R.locals ∧ cells ≤ R.cells ∧ slots ≤ R.slots
section AWR
variable {X : XT} {G : GT} {d : Nat} {own : String} {cc : ByteArray} {nL : Nat} {pc : Nat} {L st : List Value} {S : St}
theorem aw_iconst (hX : XC X G d own cc nL) {n : Int} {v : Int32} (hv : Int32.ofInt n = v) (hd : decode cc pc = .ok (.iconst n, 1)) (k : AW X G (pc + 1) L (.int v :: st) S) : AW X G pc L (st) S := by
  obtain ⟨p, l, e, R, s, m, args, below, meth, c, cells, slots, Q, A⟩ := X
  exact fun H locs ls hP hS hl => lv_iconst hX.1 hX.2.1 hd hv (k H locs ls hP hS hl)
theorem aw_bipush (hX : XC X G d own cc nL) {n : Int} {v : Int32} (hv : (Int8.ofInt n).toInt32 = v) (hd : decode cc pc = .ok (.bipush n, 2)) (k : AW X G (pc + 2) L (.int v :: st) S) : AW X G pc L (st) S := by
  obtain ⟨p, l, e, R, s, m, args, below, meth, c, cells, slots, Q, A⟩ := X
  exact fun H locs ls hP hS hl => lv_bipush hX.1 hX.2.1 hd hv (k H locs ls hP hS hl)
theorem aw_sipush (hX : XC X G d own cc nL) {n : Int} {v : Int32} (hv : (Int16.ofInt n).toInt32 = v) (hd : decode cc pc = .ok (.sipush n, 3)) (k : AW X G (pc + 3) L (.int v :: st) S) : AW X G pc L (st) S := by
  obtain ⟨p, l, e, R, s, m, args, below, meth, c, cells, slots, Q, A⟩ := X
  exact fun H locs ls hP hS hl => lv_sipush hX.1 hX.2.1 hd hv (k H locs ls hP hS hl)
theorem aw_lconst (hX : XC X G d own cc nL) {n : Fin 2} {v : Int64} (hv : Int64.ofNat (n : Nat) = v) (hd : decode cc pc = .ok (.lconst n, 1)) (k : AW X G (pc + 1) L (.long v :: st) S) : AW X G pc L (st) S := by
  obtain ⟨p, l, e, R, s, m, args, below, meth, c, cells, slots, Q, A⟩ := X
  exact fun H locs ls hP hS hl => lv_lconst hX.1 hX.2.1 hd hv (k H locs ls hP hS hl)
theorem aw_iadd (hX : XC X G d own cc nL) {x y : Int32} (hd : decode cc pc = .ok (.iadd, 1)) (k : AW X G (pc + 1) L (.int (x + y) :: st) S) : AW X G pc L (.int y :: .int x :: st) S := by
  obtain ⟨p, l, e, R, s, m, args, below, meth, c, cells, slots, Q, A⟩ := X
  exact fun H locs ls hP hS hl => lv_iadd hX.1 hX.2.1 hd (k H locs ls hP hS hl)
theorem aw_isub (hX : XC X G d own cc nL) {x y : Int32} (hd : decode cc pc = .ok (.isub, 1)) (k : AW X G (pc + 1) L (.int (x - y) :: st) S) : AW X G pc L (.int y :: .int x :: st) S := by
  obtain ⟨p, l, e, R, s, m, args, below, meth, c, cells, slots, Q, A⟩ := X
  exact fun H locs ls hP hS hl => lv_isub hX.1 hX.2.1 hd (k H locs ls hP hS hl)
theorem aw_imul (hX : XC X G d own cc nL) {x y : Int32} (hd : decode cc pc = .ok (.imul, 1)) (k : AW X G (pc + 1) L (.int (x * y) :: st) S) : AW X G pc L (.int y :: .int x :: st) S := by
  obtain ⟨p, l, e, R, s, m, args, below, meth, c, cells, slots, Q, A⟩ := X
  exact fun H locs ls hP hS hl => lv_imul hX.1 hX.2.1 hd (k H locs ls hP hS hl)
theorem aw_iand (hX : XC X G d own cc nL) {x y : Int32} (hd : decode cc pc = .ok (.iand, 1)) (k : AW X G (pc + 1) L (.int (x &&& y) :: st) S) : AW X G pc L (.int y :: .int x :: st) S := by
  obtain ⟨p, l, e, R, s, m, args, below, meth, c, cells, slots, Q, A⟩ := X
  exact fun H locs ls hP hS hl => lv_iand hX.1 hX.2.1 hd (k H locs ls hP hS hl)
theorem aw_ladd (hX : XC X G d own cc nL) {x y : Int64} (hd : decode cc pc = .ok (.ladd, 1)) (k : AW X G (pc + 1) L (.long (x + y) :: st) S) : AW X G pc L (.long y :: .long x :: st) S := by
  obtain ⟨p, l, e, R, s, m, args, below, meth, c, cells, slots, Q, A⟩ := X
  exact fun H locs ls hP hS hl => lv_ladd hX.1 hX.2.1 hd (k H locs ls hP hS hl)
theorem aw_land (hX : XC X G d own cc nL) {x y : Int64} (hd : decode cc pc = .ok (.land, 1)) (k : AW X G (pc + 1) L (.long (x &&& y) :: st) S) : AW X G pc L (.long y :: .long x :: st) S := by
  obtain ⟨p, l, e, R, s, m, args, below, meth, c, cells, slots, Q, A⟩ := X
  exact fun H locs ls hP hS hl => lv_land hX.1 hX.2.1 hd (k H locs ls hP hS hl)
theorem aw_lor (hX : XC X G d own cc nL) {x y : Int64} (hd : decode cc pc = .ok (.lor, 1)) (k : AW X G (pc + 1) L (.long (x ||| y) :: st) S) : AW X G pc L (.long y :: .long x :: st) S := by
  obtain ⟨p, l, e, R, s, m, args, below, meth, c, cells, slots, Q, A⟩ := X
  exact fun H locs ls hP hS hl => lv_lor hX.1 hX.2.1 hd (k H locs ls hP hS hl)
theorem aw_idiv (hX : XC X G d own cc nL) {x y : Int32} (hne : ¬ y = 0) (hd : decode cc pc = .ok (.idiv, 1)) (k : AW X G (pc + 1) L (.int (x / y) :: st) S) : AW X G pc L (.int y :: .int x :: st) S := by
  obtain ⟨p, l, e, R, s, m, args, below, meth, c, cells, slots, Q, A⟩ := X
  exact fun H locs ls hP hS hl => lv_idiv hX.1 hX.2.1 hd hne (k H locs ls hP hS hl)
theorem aw_ineg (hX : XC X G d own cc nL) {x : Int32} (hd : decode cc pc = .ok (.ineg, 1)) (k : AW X G (pc + 1) L (.int (-x) :: st) S) : AW X G pc L (.int x :: st) S := by
  obtain ⟨p, l, e, R, s, m, args, below, meth, c, cells, slots, Q, A⟩ := X
  exact fun H locs ls hP hS hl => lv_ineg hX.1 hX.2.1 hd (k H locs ls hP hS hl)
theorem aw_i2l (hX : XC X G d own cc nL) {x : Int32} (hd : decode cc pc = .ok (.i2l, 1)) (k : AW X G (pc + 1) L (.long x.toInt64 :: st) S) : AW X G pc L (.int x :: st) S := by
  obtain ⟨p, l, e, R, s, m, args, below, meth, c, cells, slots, Q, A⟩ := X
  exact fun H locs ls hP hS hl => lv_i2l hX.1 hX.2.1 hd rfl (k H locs ls hP hS hl)
theorem aw_l2i (hX : XC X G d own cc nL) {x : Int64} (hd : decode cc pc = .ok (.l2i, 1)) (k : AW X G (pc + 1) L (.int x.toInt32 :: st) S) : AW X G pc L (.long x :: st) S := by
  obtain ⟨p, l, e, R, s, m, args, below, meth, c, cells, slots, Q, A⟩ := X
  exact fun H locs ls hP hS hl => lv_l2i hX.1 hX.2.1 hd rfl (k H locs ls hP hS hl)
theorem aw_lushr (hX : XC X G d own cc nL) {x : Int64} {y : Int32} (hd : decode cc pc = .ok (.lushr, 1)) (k : AW X G (pc + 1) L (.long (x.toUInt64 >>> (y.toInt64.toUInt64 &&& Int64.toUInt64 63)).toInt64 :: st) S) : AW X G pc L (.int y :: .long x :: st) S := by
  obtain ⟨p, l, e, R, s, m, args, below, meth, c, cells, slots, Q, A⟩ := X
  exact fun H locs ls hP hS hl => lv_lushr hX.1 hX.2.1 hd rfl (k H locs ls hP hS hl)
theorem aw_lshl (hX : XC X G d own cc nL) {x : Int64} {y : Int32} (hd : decode cc pc = .ok (.lshl, 1)) (k : AW X G (pc + 1) L (.long (x <<< (y.toInt64 &&& 63)) :: st) S) : AW X G pc L (.int y :: .long x :: st) S := by
  obtain ⟨p, l, e, R, s, m, args, below, meth, c, cells, slots, Q, A⟩ := X
  exact fun H locs ls hP hS hl => lv_lshl hX.1 hX.2.1 hd rfl (k H locs ls hP hS hl)
theorem aw_lshr (hX : XC X G d own cc nL) {x : Int64} {y : Int32} (hd : decode cc pc = .ok (.lshr, 1)) (k : AW X G (pc + 1) L (.long (x >>> (y.toInt64 &&& 63)) :: st) S) : AW X G pc L (.int y :: .long x :: st) S := by
  obtain ⟨p, l, e, R, s, m, args, below, meth, c, cells, slots, Q, A⟩ := X
  exact fun H locs ls hP hS hl => lv_lshr hX.1 hX.2.1 hd rfl (k H locs ls hP hS hl)
theorem aw_lcmp (hX : XC X G d own cc nL) {x y : Int64} (hd : decode cc pc = .ok (.lcmp, 1)) (k : AW X G (pc + 1) L (.int (lg_cmp x y) :: st) S) : AW X G pc L (.long y :: .long x :: st) S := by
  obtain ⟨p, l, e, R, s, m, args, below, meth, c, cells, slots, Q, A⟩ := X
  exact fun H locs ls hP hS hl => W.lcmp hX.1 hX.2.1 hd (k H locs ls hP hS hl)
theorem aw_dup (hX : XC X G d own cc nL) {a : Value} (ha : a.category = 1) (hd : decode cc pc = .ok (.dup, 1)) (k : AW X G (pc + 1) L (a :: a :: st) S) : AW X G pc L (a :: st) S := by
  obtain ⟨p, l, e, R, s, m, args, below, meth, c, cells, slots, Q, A⟩ := X
  exact fun H locs ls hP hS hl => lv_dup hX.1 hX.2.1 hd ha (k H locs ls hP hS hl)
theorem aw_pop (hX : XC X G d own cc nL) {a : Value} (ha : a.category = 1) (hd : decode cc pc = .ok (.pop, 1)) (k : AW X G (pc + 1) L (st) S) : AW X G pc L (a :: st) S := by
  obtain ⟨p, l, e, R, s, m, args, below, meth, c, cells, slots, Q, A⟩ := X
  exact fun H locs ls hP hS hl => lv_pop hX.1 hX.2.1 hd ha (k H locs ls hP hS hl)
theorem aw_dup2 (hX : XC X G d own cc nL) {a b : Value} (ha : a.category = 1) (hb : b.category = 1) (hd : decode cc pc = .ok (.dup2, 1)) (k : AW X G (pc + 1) L (a :: b :: a :: b :: st) S) : AW X G pc L (a :: b :: st) S := by
  obtain ⟨p, l, e, R, s, m, args, below, meth, c, cells, slots, Q, A⟩ := X
  exact fun H locs ls hP hS hl => lv_dup2_11 hX.1 hX.2.1 hd ha hb (k H locs ls hP hS hl)
theorem aw_goto (hX : XC X G d own cc nL) {off : Int} {tgt : Nat} (hd : decode cc pc = .ok (.goto off, 3)) (ht : (pc : Int) + off = (tgt : Int)) (k : AW X G tgt L st S) : AW X G pc L st S := by
  obtain ⟨p, l, e, R, s, m, args, below, meth, c, cells, slots, Q, A⟩ := X
  exact fun H locs ls hP hS hl => lv_goto hX.1 hX.2.1 hd ht (k H locs ls hP hS hl)
theorem aw_ifeq (hX : XC X G d own cc nL) {x : Int32} {off : Int} {tgt : Nat} (hd : decode cc pc = .ok (.ifCond .eq off, 3)) (ht : (pc : Int) + off = (tgt : Int)) (kt : x = 0 → AW X G tgt L st S) (kf : ¬ x = 0 → AW X G (pc + 3) L st S) : AW X G pc L (.int x :: st) S := by
  obtain ⟨p, l, e, R, s, m, args, below, meth, c, cells, slots, Q, A⟩ := X
  exact fun H locs ls hP hS hl => lv_if_eq hX.1 hX.2.1 hd ht (fun h => kt h H locs ls hP hS hl) (fun h => kf h H locs ls hP hS hl)
theorem aw_icmpeq (hX : XC X G d own cc nL) {x y : Int32} {off : Int} {tgt : Nat} (hd : decode cc pc = .ok (.if_icmp .eq off, 3)) (ht : (pc : Int) + off = (tgt : Int)) (kt : x = y → AW X G tgt L st S) (kf : ¬ x = y → AW X G (pc + 3) L st S) : AW X G pc L (.int y :: .int x :: st) S := by
  obtain ⟨p, l, e, R, s, m, args, below, meth, c, cells, slots, Q, A⟩ := X
  exact fun H locs ls hP hS hl => lv_icmp_eq hX.1 hX.2.1 hd ht (fun h => kt h H locs ls hP hS hl) (fun h => kf h H locs ls hP hS hl)
theorem aw_ifne (hX : XC X G d own cc nL) {x : Int32} {off : Int} {tgt : Nat} (hd : decode cc pc = .ok (.ifCond .ne off, 3)) (ht : (pc : Int) + off = (tgt : Int)) (kt : ¬ x = 0 → AW X G tgt L st S) (kf : x = 0 → AW X G (pc + 3) L st S) : AW X G pc L (.int x :: st) S := by
  obtain ⟨p, l, e, R, s, m, args, below, meth, c, cells, slots, Q, A⟩ := X
  exact fun H locs ls hP hS hl => lv_if_ne hX.1 hX.2.1 hd ht (fun h => kt h H locs ls hP hS hl) (fun h => kf h H locs ls hP hS hl)
theorem aw_icmpne (hX : XC X G d own cc nL) {x y : Int32} {off : Int} {tgt : Nat} (hd : decode cc pc = .ok (.if_icmp .ne off, 3)) (ht : (pc : Int) + off = (tgt : Int)) (kt : ¬ x = y → AW X G tgt L st S) (kf : x = y → AW X G (pc + 3) L st S) : AW X G pc L (.int y :: .int x :: st) S := by
  obtain ⟨p, l, e, R, s, m, args, below, meth, c, cells, slots, Q, A⟩ := X
  exact fun H locs ls hP hS hl => lv_icmp_ne hX.1 hX.2.1 hd ht (fun h => kt h H locs ls hP hS hl) (fun h => kf h H locs ls hP hS hl)
theorem aw_iflt (hX : XC X G d own cc nL) {x : Int32} {off : Int} {tgt : Nat} (hd : decode cc pc = .ok (.ifCond .lt off, 3)) (ht : (pc : Int) + off = (tgt : Int)) (kt : x < 0 → AW X G tgt L st S) (kf : ¬ x < 0 → AW X G (pc + 3) L st S) : AW X G pc L (.int x :: st) S := by
  obtain ⟨p, l, e, R, s, m, args, below, meth, c, cells, slots, Q, A⟩ := X
  exact fun H locs ls hP hS hl => lv_if_lt hX.1 hX.2.1 hd ht (fun h => kt h H locs ls hP hS hl) (fun h => kf h H locs ls hP hS hl)
theorem aw_icmplt (hX : XC X G d own cc nL) {x y : Int32} {off : Int} {tgt : Nat} (hd : decode cc pc = .ok (.if_icmp .lt off, 3)) (ht : (pc : Int) + off = (tgt : Int)) (kt : x < y → AW X G tgt L st S) (kf : ¬ x < y → AW X G (pc + 3) L st S) : AW X G pc L (.int y :: .int x :: st) S := by
  obtain ⟨p, l, e, R, s, m, args, below, meth, c, cells, slots, Q, A⟩ := X
  exact fun H locs ls hP hS hl => lv_icmp_lt hX.1 hX.2.1 hd ht (fun h => kt h H locs ls hP hS hl) (fun h => kf h H locs ls hP hS hl)
theorem aw_ifge (hX : XC X G d own cc nL) {x : Int32} {off : Int} {tgt : Nat} (hd : decode cc pc = .ok (.ifCond .ge off, 3)) (ht : (pc : Int) + off = (tgt : Int)) (kt : 0 ≤ x → AW X G tgt L st S) (kf : ¬ 0 ≤ x → AW X G (pc + 3) L st S) : AW X G pc L (.int x :: st) S := by
  obtain ⟨p, l, e, R, s, m, args, below, meth, c, cells, slots, Q, A⟩ := X
  exact fun H locs ls hP hS hl => lv_if_ge hX.1 hX.2.1 hd ht (fun h => kt h H locs ls hP hS hl) (fun h => kf h H locs ls hP hS hl)
theorem aw_icmpge (hX : XC X G d own cc nL) {x y : Int32} {off : Int} {tgt : Nat} (hd : decode cc pc = .ok (.if_icmp .ge off, 3)) (ht : (pc : Int) + off = (tgt : Int)) (kt : y ≤ x → AW X G tgt L st S) (kf : ¬ y ≤ x → AW X G (pc + 3) L st S) : AW X G pc L (.int y :: .int x :: st) S := by
  obtain ⟨p, l, e, R, s, m, args, below, meth, c, cells, slots, Q, A⟩ := X
  exact fun H locs ls hP hS hl => lv_icmp_ge hX.1 hX.2.1 hd ht (fun h => kt h H locs ls hP hS hl) (fun h => kf h H locs ls hP hS hl)
theorem aw_ifgt (hX : XC X G d own cc nL) {x : Int32} {off : Int} {tgt : Nat} (hd : decode cc pc = .ok (.ifCond .gt off, 3)) (ht : (pc : Int) + off = (tgt : Int)) (kt : 0 < x → AW X G tgt L st S) (kf : ¬ 0 < x → AW X G (pc + 3) L st S) : AW X G pc L (.int x :: st) S := by
  obtain ⟨p, l, e, R, s, m, args, below, meth, c, cells, slots, Q, A⟩ := X
  exact fun H locs ls hP hS hl => lv_if_gt hX.1 hX.2.1 hd ht (fun h => kt h H locs ls hP hS hl) (fun h => kf h H locs ls hP hS hl)
theorem aw_icmpgt (hX : XC X G d own cc nL) {x y : Int32} {off : Int} {tgt : Nat} (hd : decode cc pc = .ok (.if_icmp .gt off, 3)) (ht : (pc : Int) + off = (tgt : Int)) (kt : y < x → AW X G tgt L st S) (kf : ¬ y < x → AW X G (pc + 3) L st S) : AW X G pc L (.int y :: .int x :: st) S := by
  obtain ⟨p, l, e, R, s, m, args, below, meth, c, cells, slots, Q, A⟩ := X
  exact fun H locs ls hP hS hl => lv_icmp_gt hX.1 hX.2.1 hd ht (fun h => kt h H locs ls hP hS hl) (fun h => kf h H locs ls hP hS hl)
theorem aw_ifle (hX : XC X G d own cc nL) {x : Int32} {off : Int} {tgt : Nat} (hd : decode cc pc = .ok (.ifCond .le off, 3)) (ht : (pc : Int) + off = (tgt : Int)) (kt : x ≤ 0 → AW X G tgt L st S) (kf : ¬ x ≤ 0 → AW X G (pc + 3) L st S) : AW X G pc L (.int x :: st) S := by
  obtain ⟨p, l, e, R, s, m, args, below, meth, c, cells, slots, Q, A⟩ := X
  exact fun H locs ls hP hS hl => lv_if_le hX.1 hX.2.1 hd ht (fun h => kt h H locs ls hP hS hl) (fun h => kf h H locs ls hP hS hl)
theorem aw_icmple (hX : XC X G d own cc nL) {x y : Int32} {off : Int} {tgt : Nat} (hd : decode cc pc = .ok (.if_icmp .le off, 3)) (ht : (pc : Int) + off = (tgt : Int)) (kt : x ≤ y → AW X G tgt L st S) (kf : ¬ x ≤ y → AW X G (pc + 3) L st S) : AW X G pc L (.int y :: .int x :: st) S := by
  obtain ⟨p, l, e, R, s, m, args, below, meth, c, cells, slots, Q, A⟩ := X
  exact fun H locs ls hP hS hl => lv_icmp_le hX.1 hX.2.1 hd ht (fun h => kt h H locs ls hP hS hl) (fun h => kf h H locs ls hP hS hl)
theorem aw_icmpeqN (hX : XC X G d own cc nL) {x y : Nat} {off : Int} {tgt : Nat} (hd : decode cc pc = .ok (.if_icmp .eq off, 3)) (ht : (pc : Int) + off = (tgt : Int)) (hx : x < 2 ^ 31) (hy : y < 2 ^ 31) (kt : x = y → AW X G tgt L st S) (kf : ¬ x = y → AW X G (pc + 3) L st S) : AW X G pc L (.int (nI y) :: .int (nI x) :: st) S :=
  aw_icmpeq hX hd ht (fun h => kt ((nI_eq hx hy).mp h)) (fun h => kf (fun z => h ((nI_eq hx hy).mpr z)))
theorem aw_icmpneN (hX : XC X G d own cc nL) {x y : Nat} {off : Int} {tgt : Nat} (hd : decode cc pc = .ok (.if_icmp .ne off, 3)) (ht : (pc : Int) + off = (tgt : Int)) (hx : x < 2 ^ 31) (hy : y < 2 ^ 31) (kt : ¬ x = y → AW X G tgt L st S) (kf : x = y → AW X G (pc + 3) L st S) : AW X G pc L (.int (nI y) :: .int (nI x) :: st) S :=
  aw_icmpne hX hd ht (fun h => kt (fun z => h ((nI_eq hx hy).mpr z))) (fun h => kf ((nI_eq hx hy).mp h))
theorem aw_icmpltN (hX : XC X G d own cc nL) {x y : Nat} {off : Int} {tgt : Nat} (hd : decode cc pc = .ok (.if_icmp .lt off, 3)) (ht : (pc : Int) + off = (tgt : Int)) (hx : x < 2 ^ 31) (hy : y < 2 ^ 31) (kt : x < y → AW X G tgt L st S) (kf : y ≤ x → AW X G (pc + 3) L st S) : AW X G pc L (.int (nI y) :: .int (nI x) :: st) S :=
  aw_icmplt hX hd ht (fun h => kt ((nI_ltI hx hy).mp h)) (fun h => kf (Nat.not_lt.mp fun z => h ((nI_ltI hx hy).mpr z)))
theorem aw_icmpgeN (hX : XC X G d own cc nL) {x y : Nat} {off : Int} {tgt : Nat} (hd : decode cc pc = .ok (.if_icmp .ge off, 3)) (ht : (pc : Int) + off = (tgt : Int)) (hx : x < 2 ^ 31) (hy : y < 2 ^ 31) (kt : y ≤ x → AW X G tgt L st S) (kf : x < y → AW X G (pc + 3) L st S) : AW X G pc L (.int (nI y) :: .int (nI x) :: st) S :=
  aw_icmpge hX hd ht (fun h => kt ((nI_leI hy hx).mp h)) (fun h => kf (Nat.not_le.mp fun z => h ((nI_leI hy hx).mpr z)))
theorem aw_icmpgtN (hX : XC X G d own cc nL) {x y : Nat} {off : Int} {tgt : Nat} (hd : decode cc pc = .ok (.if_icmp .gt off, 3)) (ht : (pc : Int) + off = (tgt : Int)) (hx : x < 2 ^ 31) (hy : y < 2 ^ 31) (kt : y < x → AW X G tgt L st S) (kf : x ≤ y → AW X G (pc + 3) L st S) : AW X G pc L (.int (nI y) :: .int (nI x) :: st) S :=
  aw_icmpgt hX hd ht (fun h => kt ((nI_ltI hy hx).mp h)) (fun h => kf (Nat.not_lt.mp fun z => h ((nI_ltI hy hx).mpr z)))
theorem aw_icmpleN (hX : XC X G d own cc nL) {x y : Nat} {off : Int} {tgt : Nat} (hd : decode cc pc = .ok (.if_icmp .le off, 3)) (ht : (pc : Int) + off = (tgt : Int)) (hx : x < 2 ^ 31) (hy : y < 2 ^ 31) (kt : x ≤ y → AW X G tgt L st S) (kf : y < x → AW X G (pc + 3) L st S) : AW X G pc L (.int (nI y) :: .int (nI x) :: st) S :=
  aw_icmple hX hd ht (fun h => kt ((nI_leI hx hy).mp h)) (fun h => kf (Nat.not_le.mp fun z => h ((nI_leI hx hy).mpr z)))
theorem bI_0 {b : Bool} : bI b = 0 ↔ b = false := by cases b <;> simp [bI]
theorem aw_ifeqB (hX : XC X G d own cc nL) {b : Bool} {off : Int} {tgt : Nat} (hd : decode cc pc = .ok (.ifCond .eq off, 3)) (ht : (pc : Int) + off = (tgt : Int)) (kt : b = false → AW X G tgt L st S) (kf : b = true → AW X G (pc + 3) L st S) : AW X G pc L (.int (bI b) :: st) S :=
  aw_ifeq hX hd ht (fun h => kt (bI_0.mp h)) (fun h => kf (by cases b; exact absurd rfl h; rfl))
theorem aw_ifneB (hX : XC X G d own cc nL) {b : Bool} {off : Int} {tgt : Nat} (hd : decode cc pc = .ok (.ifCond .ne off, 3)) (ht : (pc : Int) + off = (tgt : Int)) (kt : b = true → AW X G tgt L st S) (kf : b = false → AW X G (pc + 3) L st S) : AW X G pc L (.int (bI b) :: st) S :=
  aw_ifne hX hd ht (fun h => kt (by cases b; exact absurd rfl h; rfl)) (fun h => kf (bI_0.mp h))
theorem aw_iaddN (hX : XC X G d own cc nL) {x y : Nat} (hd : decode cc pc = .ok (.iadd, 1)) (k : AW X G (pc + 1) L (.int (nI (x + y)) :: st) S) : AW X G pc L (.int (nI y) :: .int (nI x) :: st) S := by
  obtain ⟨p, l, e, R, s, m, args, below, meth, c, cells, slots, Q, A⟩ := X
  exact fun H locs ls hP hS hl => lv_iadd hX.1 hX.2.1 hd (by rw [nI_add]; exact (k H locs ls hP hS hl))
theorem aw_imulN (hX : XC X G d own cc nL) {x y : Nat} (hd : decode cc pc = .ok (.imul, 1)) (k : AW X G (pc + 1) L (.int (nI (x * y)) :: st) S) : AW X G pc L (.int (nI y) :: .int (nI x) :: st) S := by
  obtain ⟨p, l, e, R, s, m, args, below, meth, c, cells, slots, Q, A⟩ := X
  exact fun H locs ls hP hS hl => lv_imul hX.1 hX.2.1 hd (by rw [pk_mul]; exact (k H locs ls hP hS hl))
theorem aw_isubN (hX : XC X G d own cc nL) {x y : Nat} (hle : y ≤ x) (hd : decode cc pc = .ok (.isub, 1)) (k : AW X G (pc + 1) L (.int (nI (x - y)) :: st) S) : AW X G pc L (.int (nI y) :: .int (nI x) :: st) S := by
  obtain ⟨p, l, e, R, s, m, args, below, meth, c, cells, slots, Q, A⟩ := X
  exact fun H locs ls hP hS hl => lv_isub hX.1 hX.2.1 hd (by rw [pk_sub hle]; exact (k H locs ls hP hS hl))
theorem aw_ti {x y : Int32} (h : x = y) (k : AW X G pc L (.int y :: st) S) : AW X G pc L (.int x :: st) S := h ▸ k
theorem aw_ti2 {x y : Int32} {a : Value} (h : x = y) (k : AW X G pc L (a :: .int y :: st) S) : AW X G pc L (a :: .int x :: st) S := h ▸ k
theorem aw_tl {x y : Int64} (h : x = y) (k : AW X G pc L (.long y :: st) S) : AW X G pc L (.long x :: st) S := h ▸ k
theorem aw_S {S' : St} (h : S = S') (k : AW X G pc L st S') : AW X G pc L st S := h ▸ k
theorem aw_finI {S' : St} {x y : Int32} (k : AW X G pc L [.int y] S') (h : x = y) (h2 : S = S') : AW X G pc L [.int x] S := by subst h; subst h2; exact k
theorem aw_finL {S' : St} {x y : Int64} (k : AW X G pc L [.long y] S') (h : x = y) (h2 : S = S') : AW X G pc L [.long x] S := by subst h; subst h2; exact k
theorem aw_finV {S' : St} (k : AW X G pc L [] S') (h2 : S = S') : AW X G pc L [] S := by subst h2; exact k
theorem aw_iload_0 (hX : XC X G d own cc nL) {x : Int32} {t : List Value} (hd : decode cc pc = .ok (.iload_n 0, 1)) (k : AW X G (pc + 1) (.int x :: t) (.int x :: st) S) : AW X G pc (.int x :: t) (st) S := by
  obtain ⟨p, l, e, R, s, m, args, below, meth, c, cells, slots, Q, A⟩ := X
  exact fun H locs ls hP hS hl => lv_iload_n hX.1 hX.2.1 hd rfl (hl.get (i := 0) rfl (by intro h; cases h)) (k H locs ls hP hS hl)
theorem aw_aload_0 (hX : XC X G d own cc nL) {x : Nat} {t : List Value} (hd : decode cc pc = .ok (.aload_n 0, 1)) (k : AW X G (pc + 1) (.ref x :: t) (.ref x :: st) S) : AW X G pc (.ref x :: t) (st) S := by
  obtain ⟨p, l, e, R, s, m, args, below, meth, c, cells, slots, Q, A⟩ := X
  exact fun H locs ls hP hS hl => lv_aload_n hX.1 hX.2.1 hd rfl (hl.get (i := 0) rfl (by intro h; cases h)) (k H locs ls hP hS hl)
theorem aw_istore_0 (hX : XC X G d own cc nL) {x : Int32} {b : Value} {t : List Value} (hn : 0 < nL) (hd : decode cc pc = .ok (.istore_n 0, 1)) (k : AW X G (pc + 1) (.int x :: t) (st) S) : AW X G pc (b :: t) (.int x :: st) S := by
  obtain ⟨p, l, e, R, s, m, args, below, meth, c, cells, slots, Q, A⟩ := X
  exact fun H locs ls hP hS hl => lv_istore_n hX.1 hX.2.1 hd rfl (hl.lv _) (by rw [hX.2.2.1]; exact hn) rfl (fun ls2 hl2 => k H locs ls2 hP hS (hasL.set hl2 (by intro j w hj; omega)))
theorem aw_iload_1 (hX : XC X G d own cc nL) {a0 : Value} {x : Int32} {t : List Value} (hd : decode cc pc = .ok (.iload_n 1, 1)) (k : AW X G (pc + 1) (a0 :: .int x :: t) (.int x :: st) S) : AW X G pc (a0 :: .int x :: t) (st) S := by
  obtain ⟨p, l, e, R, s, m, args, below, meth, c, cells, slots, Q, A⟩ := X
  exact fun H locs ls hP hS hl => lv_iload_n hX.1 hX.2.1 hd rfl (hl.get (i := 1) rfl (by intro h; cases h)) (k H locs ls hP hS hl)
theorem aw_aload_1 (hX : XC X G d own cc nL) {a0 : Value} {x : Nat} {t : List Value} (hd : decode cc pc = .ok (.aload_n 1, 1)) (k : AW X G (pc + 1) (a0 :: .ref x :: t) (.ref x :: st) S) : AW X G pc (a0 :: .ref x :: t) (st) S := by
  obtain ⟨p, l, e, R, s, m, args, below, meth, c, cells, slots, Q, A⟩ := X
  exact fun H locs ls hP hS hl => lv_aload_n hX.1 hX.2.1 hd rfl (hl.get (i := 1) rfl (by intro h; cases h)) (k H locs ls hP hS hl)
theorem aw_lload_1 (hX : XC X G d own cc nL) {a0 : Value} {x : Int64} {t : List Value} (hd : decode cc pc = .ok (.lload_n 1, 1)) (k : AW X G (pc + 1) (a0 :: .long x :: t) (.long x :: st) S) : AW X G pc (a0 :: .long x :: t) (st) S := by
  obtain ⟨p, l, e, R, s, m, args, below, meth, c, cells, slots, Q, A⟩ := X
  exact fun H locs ls hP hS hl => lv_lload_n hX.1 hX.2.1 hd rfl (hl.get (i := 1) rfl (by intro h; cases h)) (k H locs ls hP hS hl)
theorem aw_istore_1 (hX : XC X G d own cc nL) {a0 : Value} {x : Int32} {b : Value} {t : List Value} (hc : a0.category = 1) (hn : 1 < nL) (hd : decode cc pc = .ok (.istore_n 1, 1)) (k : AW X G (pc + 1) (a0 :: .int x :: t) (st) S) : AW X G pc (a0 :: b :: t) (.int x :: st) S := by
  obtain ⟨p, l, e, R, s, m, args, below, meth, c, cells, slots, Q, A⟩ := X
  exact fun H locs ls hP hS hl => lv_istore_n hX.1 hX.2.1 hd rfl (hl.lv _) (by rw [hX.2.2.1]; exact hn) rfl (fun ls2 hl2 => k H locs ls2 hP hS (hasL.set hl2 (prevOK (a := a0) (i := 0) rfl hc)))
theorem aw_astore_1 (hX : XC X G d own cc nL) {a0 : Value} {x : Nat} {b : Value} {t : List Value} (hc : a0.category = 1) (hn : 1 < nL) (hd : decode cc pc = .ok (.astore_n 1, 1)) (k : AW X G (pc + 1) (a0 :: .ref x :: t) (st) S) : AW X G pc (a0 :: b :: t) (.ref x :: st) S := by
  obtain ⟨p, l, e, R, s, m, args, below, meth, c, cells, slots, Q, A⟩ := X
  exact fun H locs ls hP hS hl => lv_astore_n hX.1 hX.2.1 hd rfl (hl.lv _) (by rw [hX.2.2.1]; exact hn) rfl (fun ls2 hl2 => k H locs ls2 hP hS (hasL.set hl2 (prevOK (a := a0) (i := 0) rfl hc)))
theorem aw_iinc_1 (hX : XC X G d own cc nL) {a0 : Value} {x : Int32} {n : Int} {t : List Value} (hc : a0.category = 1) (hn : 1 < nL) (hd : decode cc pc = .ok (.iinc 1 n, 3)) (k : AW X G (pc + 3) (a0 :: .int (x + Int32.ofInt n) :: t) st S) : AW X G pc (a0 :: .int x :: t) st S := by
  obtain ⟨p, l, e, R, s, m, args, below, meth, c, cells, slots, Q, A⟩ := X
  intro H locs ls hP hS hl
  have hm : (1, Value.int x) ∈ toLv (a0 :: .int x :: t) (a0 :: .int x :: t).length := toLv_mem.mpr ⟨by simp, rfl, by intro h; cases h⟩
  obtain ⟨k0, hk0⟩ := List.getElem?_of_mem hm
  exact lv_iinc hX.1 hX.2.1 hd (hl.lv _) hk0 rfl (by rw [hX.2.2.1]; exact hn) rfl (fun ls2 hl2 => k H locs ls2 hP hS (hasL.set hl2 (prevOK (a := a0) (i := 0) rfl hc)))
theorem aw_iinc_1N (hX : XC X G d own cc nL) {a0 : Value} {x : Nat} {t : List Value} (hc : a0.category = 1) (hn : 1 < nL) (hd : decode cc pc = .ok (.iinc 1 1, 3)) (k : AW X G (pc + 3) (a0 :: .int (nI (x + 1)) :: t) st S) : AW X G pc (a0 :: .int (nI x) :: t) st S :=
  aw_iinc_1 hX hc hn hd (by rw [show nI x + Int32.ofInt 1 = nI (x + 1) from nI_1 x]; exact k)
theorem aw_iload_2 (hX : XC X G d own cc nL) {a0 a1 : Value} {x : Int32} {t : List Value} (hd : decode cc pc = .ok (.iload_n 2, 1)) (k : AW X G (pc + 1) (a0 :: a1 :: .int x :: t) (.int x :: st) S) : AW X G pc (a0 :: a1 :: .int x :: t) (st) S := by
  obtain ⟨p, l, e, R, s, m, args, below, meth, c, cells, slots, Q, A⟩ := X
  exact fun H locs ls hP hS hl => lv_iload_n hX.1 hX.2.1 hd rfl (hl.get (i := 2) rfl (by intro h; cases h)) (k H locs ls hP hS hl)
theorem aw_aload_2 (hX : XC X G d own cc nL) {a0 a1 : Value} {x : Nat} {t : List Value} (hd : decode cc pc = .ok (.aload_n 2, 1)) (k : AW X G (pc + 1) (a0 :: a1 :: .ref x :: t) (.ref x :: st) S) : AW X G pc (a0 :: a1 :: .ref x :: t) (st) S := by
  obtain ⟨p, l, e, R, s, m, args, below, meth, c, cells, slots, Q, A⟩ := X
  exact fun H locs ls hP hS hl => lv_aload_n hX.1 hX.2.1 hd rfl (hl.get (i := 2) rfl (by intro h; cases h)) (k H locs ls hP hS hl)
theorem aw_istore_2 (hX : XC X G d own cc nL) {a0 a1 : Value} {x : Int32} {b : Value} {t : List Value} (hc : a1.category = 1) (hn : 2 < nL) (hd : decode cc pc = .ok (.istore_n 2, 1)) (k : AW X G (pc + 1) (a0 :: a1 :: .int x :: t) (st) S) : AW X G pc (a0 :: a1 :: b :: t) (.int x :: st) S := by
  obtain ⟨p, l, e, R, s, m, args, below, meth, c, cells, slots, Q, A⟩ := X
  exact fun H locs ls hP hS hl => lv_istore_n hX.1 hX.2.1 hd rfl (hl.lv _) (by rw [hX.2.2.1]; exact hn) rfl (fun ls2 hl2 => k H locs ls2 hP hS (hasL.set hl2 (prevOK (a := a1) (i := 1) rfl hc)))
theorem aw_astore_2 (hX : XC X G d own cc nL) {a0 a1 : Value} {x : Nat} {b : Value} {t : List Value} (hc : a1.category = 1) (hn : 2 < nL) (hd : decode cc pc = .ok (.astore_n 2, 1)) (k : AW X G (pc + 1) (a0 :: a1 :: .ref x :: t) (st) S) : AW X G pc (a0 :: a1 :: b :: t) (.ref x :: st) S := by
  obtain ⟨p, l, e, R, s, m, args, below, meth, c, cells, slots, Q, A⟩ := X
  exact fun H locs ls hP hS hl => lv_astore_n hX.1 hX.2.1 hd rfl (hl.lv _) (by rw [hX.2.2.1]; exact hn) rfl (fun ls2 hl2 => k H locs ls2 hP hS (hasL.set hl2 (prevOK (a := a1) (i := 1) rfl hc)))
theorem aw_iinc_2 (hX : XC X G d own cc nL) {a0 a1 : Value} {x : Int32} {n : Int} {t : List Value} (hc : a1.category = 1) (hn : 2 < nL) (hd : decode cc pc = .ok (.iinc 2 n, 3)) (k : AW X G (pc + 3) (a0 :: a1 :: .int (x + Int32.ofInt n) :: t) st S) : AW X G pc (a0 :: a1 :: .int x :: t) st S := by
  obtain ⟨p, l, e, R, s, m, args, below, meth, c, cells, slots, Q, A⟩ := X
  intro H locs ls hP hS hl
  have hm : (2, Value.int x) ∈ toLv (a0 :: a1 :: .int x :: t) (a0 :: a1 :: .int x :: t).length := toLv_mem.mpr ⟨by simp, rfl, by intro h; cases h⟩
  obtain ⟨k0, hk0⟩ := List.getElem?_of_mem hm
  exact lv_iinc hX.1 hX.2.1 hd (hl.lv _) hk0 rfl (by rw [hX.2.2.1]; exact hn) rfl (fun ls2 hl2 => k H locs ls2 hP hS (hasL.set hl2 (prevOK (a := a1) (i := 1) rfl hc)))
theorem aw_iinc_2N (hX : XC X G d own cc nL) {a0 a1 : Value} {x : Nat} {t : List Value} (hc : a1.category = 1) (hn : 2 < nL) (hd : decode cc pc = .ok (.iinc 2 1, 3)) (k : AW X G (pc + 3) (a0 :: a1 :: .int (nI (x + 1)) :: t) st S) : AW X G pc (a0 :: a1 :: .int (nI x) :: t) st S :=
  aw_iinc_2 hX hc hn hd (by rw [show nI x + Int32.ofInt 1 = nI (x + 1) from nI_1 x]; exact k)
theorem aw_iload_3 (hX : XC X G d own cc nL) {a0 a1 a2 : Value} {x : Int32} {t : List Value} (hd : decode cc pc = .ok (.iload_n 3, 1)) (k : AW X G (pc + 1) (a0 :: a1 :: a2 :: .int x :: t) (.int x :: st) S) : AW X G pc (a0 :: a1 :: a2 :: .int x :: t) (st) S := by
  obtain ⟨p, l, e, R, s, m, args, below, meth, c, cells, slots, Q, A⟩ := X
  exact fun H locs ls hP hS hl => lv_iload_n hX.1 hX.2.1 hd rfl (hl.get (i := 3) rfl (by intro h; cases h)) (k H locs ls hP hS hl)
theorem aw_istore_3 (hX : XC X G d own cc nL) {a0 a1 a2 : Value} {x : Int32} {b : Value} {t : List Value} (hc : a2.category = 1) (hn : 3 < nL) (hd : decode cc pc = .ok (.istore_n 3, 1)) (k : AW X G (pc + 1) (a0 :: a1 :: a2 :: .int x :: t) (st) S) : AW X G pc (a0 :: a1 :: a2 :: b :: t) (.int x :: st) S := by
  obtain ⟨p, l, e, R, s, m, args, below, meth, c, cells, slots, Q, A⟩ := X
  exact fun H locs ls hP hS hl => lv_istore_n hX.1 hX.2.1 hd rfl (hl.lv _) (by rw [hX.2.2.1]; exact hn) rfl (fun ls2 hl2 => k H locs ls2 hP hS (hasL.set hl2 (prevOK (a := a2) (i := 2) rfl hc)))
theorem aw_iinc_3 (hX : XC X G d own cc nL) {a0 a1 a2 : Value} {x : Int32} {n : Int} {t : List Value} (hc : a2.category = 1) (hn : 3 < nL) (hd : decode cc pc = .ok (.iinc 3 n, 3)) (k : AW X G (pc + 3) (a0 :: a1 :: a2 :: .int (x + Int32.ofInt n) :: t) st S) : AW X G pc (a0 :: a1 :: a2 :: .int x :: t) st S := by
  obtain ⟨p, l, e, R, s, m, args, below, meth, c, cells, slots, Q, A⟩ := X
  intro H locs ls hP hS hl
  have hm : (3, Value.int x) ∈ toLv (a0 :: a1 :: a2 :: .int x :: t) (a0 :: a1 :: a2 :: .int x :: t).length := toLv_mem.mpr ⟨by simp, rfl, by intro h; cases h⟩
  obtain ⟨k0, hk0⟩ := List.getElem?_of_mem hm
  exact lv_iinc hX.1 hX.2.1 hd (hl.lv _) hk0 rfl (by rw [hX.2.2.1]; exact hn) rfl (fun ls2 hl2 => k H locs ls2 hP hS (hasL.set hl2 (prevOK (a := a2) (i := 2) rfl hc)))
theorem aw_iinc_3N (hX : XC X G d own cc nL) {a0 a1 a2 : Value} {x : Nat} {t : List Value} (hc : a2.category = 1) (hn : 3 < nL) (hd : decode cc pc = .ok (.iinc 3 1, 3)) (k : AW X G (pc + 3) (a0 :: a1 :: a2 :: .int (nI (x + 1)) :: t) st S) : AW X G pc (a0 :: a1 :: a2 :: .int (nI x) :: t) st S :=
  aw_iinc_3 hX hc hn hd (by rw [show nI x + Int32.ofInt 1 = nI (x + 1) from nI_1 x]; exact k)
theorem aw_iload_4 (hX : XC X G d own cc nL) {a0 a1 a2 a3 : Value} {x : Int32} {t : List Value} (hd : decode cc pc = .ok (.iload 4, 2)) (k : AW X G (pc + 2) (a0 :: a1 :: a2 :: a3 :: .int x :: t) (.int x :: st) S) : AW X G pc (a0 :: a1 :: a2 :: a3 :: .int x :: t) (st) S := by
  obtain ⟨p, l, e, R, s, m, args, below, meth, c, cells, slots, Q, A⟩ := X
  exact fun H locs ls hP hS hl => lv_iload hX.1 hX.2.1 hd (hl.get (i := 4) rfl (by intro h; cases h)) (k H locs ls hP hS hl)
theorem aw_istore_4 (hX : XC X G d own cc nL) {a0 a1 a2 a3 : Value} {x : Int32} {b : Value} {t : List Value} (hc : a3.category = 1) (hn : 4 < nL) (hd : decode cc pc = .ok (.istore 4, 2)) (k : AW X G (pc + 2) (a0 :: a1 :: a2 :: a3 :: .int x :: t) (st) S) : AW X G pc (a0 :: a1 :: a2 :: a3 :: b :: t) (.int x :: st) S := by
  obtain ⟨p, l, e, R, s, m, args, below, meth, c, cells, slots, Q, A⟩ := X
  exact fun H locs ls hP hS hl => lv_istore hX.1 hX.2.1 hd (hl.lv _) (by rw [hX.2.2.1]; exact hn) rfl (fun ls2 hl2 => k H locs ls2 hP hS (hasL.set hl2 (prevOK (a := a3) (i := 3) rfl hc)))
theorem aw_iinc_4 (hX : XC X G d own cc nL) {a0 a1 a2 a3 : Value} {x : Int32} {n : Int} {t : List Value} (hc : a3.category = 1) (hn : 4 < nL) (hd : decode cc pc = .ok (.iinc 4 n, 3)) (k : AW X G (pc + 3) (a0 :: a1 :: a2 :: a3 :: .int (x + Int32.ofInt n) :: t) st S) : AW X G pc (a0 :: a1 :: a2 :: a3 :: .int x :: t) st S := by
  obtain ⟨p, l, e, R, s, m, args, below, meth, c, cells, slots, Q, A⟩ := X
  intro H locs ls hP hS hl
  have hm : (4, Value.int x) ∈ toLv (a0 :: a1 :: a2 :: a3 :: .int x :: t) (a0 :: a1 :: a2 :: a3 :: .int x :: t).length := toLv_mem.mpr ⟨by simp, rfl, by intro h; cases h⟩
  obtain ⟨k0, hk0⟩ := List.getElem?_of_mem hm
  exact lv_iinc hX.1 hX.2.1 hd (hl.lv _) hk0 rfl (by rw [hX.2.2.1]; exact hn) rfl (fun ls2 hl2 => k H locs ls2 hP hS (hasL.set hl2 (prevOK (a := a3) (i := 3) rfl hc)))
theorem aw_iinc_4N (hX : XC X G d own cc nL) {a0 a1 a2 a3 : Value} {x : Nat} {t : List Value} (hc : a3.category = 1) (hn : 4 < nL) (hd : decode cc pc = .ok (.iinc 4 1, 3)) (k : AW X G (pc + 3) (a0 :: a1 :: a2 :: a3 :: .int (nI (x + 1)) :: t) st S) : AW X G pc (a0 :: a1 :: a2 :: a3 :: .int (nI x) :: t) st S :=
  aw_iinc_4 hX hc hn hd (by rw [show nI x + Int32.ofInt 1 = nI (x + 1) from nI_1 x]; exact k)
theorem aw_iload_5 (hX : XC X G d own cc nL) {a0 a1 a2 a3 a4 : Value} {x : Int32} {t : List Value} (hd : decode cc pc = .ok (.iload 5, 2)) (k : AW X G (pc + 2) (a0 :: a1 :: a2 :: a3 :: a4 :: .int x :: t) (.int x :: st) S) : AW X G pc (a0 :: a1 :: a2 :: a3 :: a4 :: .int x :: t) (st) S := by
  obtain ⟨p, l, e, R, s, m, args, below, meth, c, cells, slots, Q, A⟩ := X
  exact fun H locs ls hP hS hl => lv_iload hX.1 hX.2.1 hd (hl.get (i := 5) rfl (by intro h; cases h)) (k H locs ls hP hS hl)
theorem aw_istore_5 (hX : XC X G d own cc nL) {a0 a1 a2 a3 a4 : Value} {x : Int32} {b : Value} {t : List Value} (hc : a4.category = 1) (hn : 5 < nL) (hd : decode cc pc = .ok (.istore 5, 2)) (k : AW X G (pc + 2) (a0 :: a1 :: a2 :: a3 :: a4 :: .int x :: t) (st) S) : AW X G pc (a0 :: a1 :: a2 :: a3 :: a4 :: b :: t) (.int x :: st) S := by
  obtain ⟨p, l, e, R, s, m, args, below, meth, c, cells, slots, Q, A⟩ := X
  exact fun H locs ls hP hS hl => lv_istore hX.1 hX.2.1 hd (hl.lv _) (by rw [hX.2.2.1]; exact hn) rfl (fun ls2 hl2 => k H locs ls2 hP hS (hasL.set hl2 (prevOK (a := a4) (i := 4) rfl hc)))
theorem aw_iinc_5 (hX : XC X G d own cc nL) {a0 a1 a2 a3 a4 : Value} {x : Int32} {n : Int} {t : List Value} (hc : a4.category = 1) (hn : 5 < nL) (hd : decode cc pc = .ok (.iinc 5 n, 3)) (k : AW X G (pc + 3) (a0 :: a1 :: a2 :: a3 :: a4 :: .int (x + Int32.ofInt n) :: t) st S) : AW X G pc (a0 :: a1 :: a2 :: a3 :: a4 :: .int x :: t) st S := by
  obtain ⟨p, l, e, R, s, m, args, below, meth, c, cells, slots, Q, A⟩ := X
  intro H locs ls hP hS hl
  have hm : (5, Value.int x) ∈ toLv (a0 :: a1 :: a2 :: a3 :: a4 :: .int x :: t) (a0 :: a1 :: a2 :: a3 :: a4 :: .int x :: t).length := toLv_mem.mpr ⟨by simp, rfl, by intro h; cases h⟩
  obtain ⟨k0, hk0⟩ := List.getElem?_of_mem hm
  exact lv_iinc hX.1 hX.2.1 hd (hl.lv _) hk0 rfl (by rw [hX.2.2.1]; exact hn) rfl (fun ls2 hl2 => k H locs ls2 hP hS (hasL.set hl2 (prevOK (a := a4) (i := 4) rfl hc)))
theorem aw_iinc_5N (hX : XC X G d own cc nL) {a0 a1 a2 a3 a4 : Value} {x : Nat} {t : List Value} (hc : a4.category = 1) (hn : 5 < nL) (hd : decode cc pc = .ok (.iinc 5 1, 3)) (k : AW X G (pc + 3) (a0 :: a1 :: a2 :: a3 :: a4 :: .int (nI (x + 1)) :: t) st S) : AW X G pc (a0 :: a1 :: a2 :: a3 :: a4 :: .int (nI x) :: t) st S :=
  aw_iinc_5 hX hc hn hd (by rw [show nI x + Int32.ofInt 1 = nI (x + 1) from nI_1 x]; exact k)
theorem aw_iload_6 (hX : XC X G d own cc nL) {a0 a1 a2 a3 a4 a5 : Value} {x : Int32} {t : List Value} (hd : decode cc pc = .ok (.iload 6, 2)) (k : AW X G (pc + 2) (a0 :: a1 :: a2 :: a3 :: a4 :: a5 :: .int x :: t) (.int x :: st) S) : AW X G pc (a0 :: a1 :: a2 :: a3 :: a4 :: a5 :: .int x :: t) (st) S := by
  obtain ⟨p, l, e, R, s, m, args, below, meth, c, cells, slots, Q, A⟩ := X
  exact fun H locs ls hP hS hl => lv_iload hX.1 hX.2.1 hd (hl.get (i := 6) rfl (by intro h; cases h)) (k H locs ls hP hS hl)
theorem aw_istore_6 (hX : XC X G d own cc nL) {a0 a1 a2 a3 a4 a5 : Value} {x : Int32} {b : Value} {t : List Value} (hc : a5.category = 1) (hn : 6 < nL) (hd : decode cc pc = .ok (.istore 6, 2)) (k : AW X G (pc + 2) (a0 :: a1 :: a2 :: a3 :: a4 :: a5 :: .int x :: t) (st) S) : AW X G pc (a0 :: a1 :: a2 :: a3 :: a4 :: a5 :: b :: t) (.int x :: st) S := by
  obtain ⟨p, l, e, R, s, m, args, below, meth, c, cells, slots, Q, A⟩ := X
  exact fun H locs ls hP hS hl => lv_istore hX.1 hX.2.1 hd (hl.lv _) (by rw [hX.2.2.1]; exact hn) rfl (fun ls2 hl2 => k H locs ls2 hP hS (hasL.set hl2 (prevOK (a := a5) (i := 5) rfl hc)))
theorem aw_iinc_6 (hX : XC X G d own cc nL) {a0 a1 a2 a3 a4 a5 : Value} {x : Int32} {n : Int} {t : List Value} (hc : a5.category = 1) (hn : 6 < nL) (hd : decode cc pc = .ok (.iinc 6 n, 3)) (k : AW X G (pc + 3) (a0 :: a1 :: a2 :: a3 :: a4 :: a5 :: .int (x + Int32.ofInt n) :: t) st S) : AW X G pc (a0 :: a1 :: a2 :: a3 :: a4 :: a5 :: .int x :: t) st S := by
  obtain ⟨p, l, e, R, s, m, args, below, meth, c, cells, slots, Q, A⟩ := X
  intro H locs ls hP hS hl
  have hm : (6, Value.int x) ∈ toLv (a0 :: a1 :: a2 :: a3 :: a4 :: a5 :: .int x :: t) (a0 :: a1 :: a2 :: a3 :: a4 :: a5 :: .int x :: t).length := toLv_mem.mpr ⟨by simp, rfl, by intro h; cases h⟩
  obtain ⟨k0, hk0⟩ := List.getElem?_of_mem hm
  exact lv_iinc hX.1 hX.2.1 hd (hl.lv _) hk0 rfl (by rw [hX.2.2.1]; exact hn) rfl (fun ls2 hl2 => k H locs ls2 hP hS (hasL.set hl2 (prevOK (a := a5) (i := 5) rfl hc)))
theorem aw_iinc_6N (hX : XC X G d own cc nL) {a0 a1 a2 a3 a4 a5 : Value} {x : Nat} {t : List Value} (hc : a5.category = 1) (hn : 6 < nL) (hd : decode cc pc = .ok (.iinc 6 1, 3)) (k : AW X G (pc + 3) (a0 :: a1 :: a2 :: a3 :: a4 :: a5 :: .int (nI (x + 1)) :: t) st S) : AW X G pc (a0 :: a1 :: a2 :: a3 :: a4 :: a5 :: .int (nI x) :: t) st S :=
  aw_iinc_6 hX hc hn hd (by rw [show nI x + Int32.ofInt 1 = nI (x + 1) from nI_1 x]; exact k)
theorem aw_iload_7 (hX : XC X G d own cc nL) {a0 a1 a2 a3 a4 a5 a6 : Value} {x : Int32} {t : List Value} (hd : decode cc pc = .ok (.iload 7, 2)) (k : AW X G (pc + 2) (a0 :: a1 :: a2 :: a3 :: a4 :: a5 :: a6 :: .int x :: t) (.int x :: st) S) : AW X G pc (a0 :: a1 :: a2 :: a3 :: a4 :: a5 :: a6 :: .int x :: t) (st) S := by
  obtain ⟨p, l, e, R, s, m, args, below, meth, c, cells, slots, Q, A⟩ := X
  exact fun H locs ls hP hS hl => lv_iload hX.1 hX.2.1 hd (hl.get (i := 7) rfl (by intro h; cases h)) (k H locs ls hP hS hl)
theorem aw_istore_7 (hX : XC X G d own cc nL) {a0 a1 a2 a3 a4 a5 a6 : Value} {x : Int32} {b : Value} {t : List Value} (hc : a6.category = 1) (hn : 7 < nL) (hd : decode cc pc = .ok (.istore 7, 2)) (k : AW X G (pc + 2) (a0 :: a1 :: a2 :: a3 :: a4 :: a5 :: a6 :: .int x :: t) (st) S) : AW X G pc (a0 :: a1 :: a2 :: a3 :: a4 :: a5 :: a6 :: b :: t) (.int x :: st) S := by
  obtain ⟨p, l, e, R, s, m, args, below, meth, c, cells, slots, Q, A⟩ := X
  exact fun H locs ls hP hS hl => lv_istore hX.1 hX.2.1 hd (hl.lv _) (by rw [hX.2.2.1]; exact hn) rfl (fun ls2 hl2 => k H locs ls2 hP hS (hasL.set hl2 (prevOK (a := a6) (i := 6) rfl hc)))
theorem aw_iinc_7 (hX : XC X G d own cc nL) {a0 a1 a2 a3 a4 a5 a6 : Value} {x : Int32} {n : Int} {t : List Value} (hc : a6.category = 1) (hn : 7 < nL) (hd : decode cc pc = .ok (.iinc 7 n, 3)) (k : AW X G (pc + 3) (a0 :: a1 :: a2 :: a3 :: a4 :: a5 :: a6 :: .int (x + Int32.ofInt n) :: t) st S) : AW X G pc (a0 :: a1 :: a2 :: a3 :: a4 :: a5 :: a6 :: .int x :: t) st S := by
  obtain ⟨p, l, e, R, s, m, args, below, meth, c, cells, slots, Q, A⟩ := X
  intro H locs ls hP hS hl
  have hm : (7, Value.int x) ∈ toLv (a0 :: a1 :: a2 :: a3 :: a4 :: a5 :: a6 :: .int x :: t) (a0 :: a1 :: a2 :: a3 :: a4 :: a5 :: a6 :: .int x :: t).length := toLv_mem.mpr ⟨by simp, rfl, by intro h; cases h⟩
  obtain ⟨k0, hk0⟩ := List.getElem?_of_mem hm
  exact lv_iinc hX.1 hX.2.1 hd (hl.lv _) hk0 rfl (by rw [hX.2.2.1]; exact hn) rfl (fun ls2 hl2 => k H locs ls2 hP hS (hasL.set hl2 (prevOK (a := a6) (i := 6) rfl hc)))
theorem aw_iinc_7N (hX : XC X G d own cc nL) {a0 a1 a2 a3 a4 a5 a6 : Value} {x : Nat} {t : List Value} (hc : a6.category = 1) (hn : 7 < nL) (hd : decode cc pc = .ok (.iinc 7 1, 3)) (k : AW X G (pc + 3) (a0 :: a1 :: a2 :: a3 :: a4 :: a5 :: a6 :: .int (nI (x + 1)) :: t) st S) : AW X G pc (a0 :: a1 :: a2 :: a3 :: a4 :: a5 :: a6 :: .int (nI x) :: t) st S :=
  aw_iinc_7 hX hc hn hd (by rw [show nI x + Int32.ofInt 1 = nI (x + 1) from nI_1 x]; exact k)
theorem aw_iload_8 (hX : XC X G d own cc nL) {a0 a1 a2 a3 a4 a5 a6 a7 : Value} {x : Int32} {t : List Value} (hd : decode cc pc = .ok (.iload 8, 2)) (k : AW X G (pc + 2) (a0 :: a1 :: a2 :: a3 :: a4 :: a5 :: a6 :: a7 :: .int x :: t) (.int x :: st) S) : AW X G pc (a0 :: a1 :: a2 :: a3 :: a4 :: a5 :: a6 :: a7 :: .int x :: t) (st) S := by
  obtain ⟨p, l, e, R, s, m, args, below, meth, c, cells, slots, Q, A⟩ := X
  exact fun H locs ls hP hS hl => lv_iload hX.1 hX.2.1 hd (hl.get (i := 8) rfl (by intro h; cases h)) (k H locs ls hP hS hl)
theorem aw_istore_8 (hX : XC X G d own cc nL) {a0 a1 a2 a3 a4 a5 a6 a7 : Value} {x : Int32} {b : Value} {t : List Value} (hc : a7.category = 1) (hn : 8 < nL) (hd : decode cc pc = .ok (.istore 8, 2)) (k : AW X G (pc + 2) (a0 :: a1 :: a2 :: a3 :: a4 :: a5 :: a6 :: a7 :: .int x :: t) (st) S) : AW X G pc (a0 :: a1 :: a2 :: a3 :: a4 :: a5 :: a6 :: a7 :: b :: t) (.int x :: st) S := by
  obtain ⟨p, l, e, R, s, m, args, below, meth, c, cells, slots, Q, A⟩ := X
  exact fun H locs ls hP hS hl => lv_istore hX.1 hX.2.1 hd (hl.lv _) (by rw [hX.2.2.1]; exact hn) rfl (fun ls2 hl2 => k H locs ls2 hP hS (hasL.set hl2 (prevOK (a := a7) (i := 7) rfl hc)))
theorem aw_iinc_8 (hX : XC X G d own cc nL) {a0 a1 a2 a3 a4 a5 a6 a7 : Value} {x : Int32} {n : Int} {t : List Value} (hc : a7.category = 1) (hn : 8 < nL) (hd : decode cc pc = .ok (.iinc 8 n, 3)) (k : AW X G (pc + 3) (a0 :: a1 :: a2 :: a3 :: a4 :: a5 :: a6 :: a7 :: .int (x + Int32.ofInt n) :: t) st S) : AW X G pc (a0 :: a1 :: a2 :: a3 :: a4 :: a5 :: a6 :: a7 :: .int x :: t) st S := by
  obtain ⟨p, l, e, R, s, m, args, below, meth, c, cells, slots, Q, A⟩ := X
  intro H locs ls hP hS hl
  have hm : (8, Value.int x) ∈ toLv (a0 :: a1 :: a2 :: a3 :: a4 :: a5 :: a6 :: a7 :: .int x :: t) (a0 :: a1 :: a2 :: a3 :: a4 :: a5 :: a6 :: a7 :: .int x :: t).length := toLv_mem.mpr ⟨by simp, rfl, by intro h; cases h⟩
  obtain ⟨k0, hk0⟩ := List.getElem?_of_mem hm
  exact lv_iinc hX.1 hX.2.1 hd (hl.lv _) hk0 rfl (by rw [hX.2.2.1]; exact hn) rfl (fun ls2 hl2 => k H locs ls2 hP hS (hasL.set hl2 (prevOK (a := a7) (i := 7) rfl hc)))
theorem aw_iinc_8N (hX : XC X G d own cc nL) {a0 a1 a2 a3 a4 a5 a6 a7 : Value} {x : Nat} {t : List Value} (hc : a7.category = 1) (hn : 8 < nL) (hd : decode cc pc = .ok (.iinc 8 1, 3)) (k : AW X G (pc + 3) (a0 :: a1 :: a2 :: a3 :: a4 :: a5 :: a6 :: a7 :: .int (nI (x + 1)) :: t) st S) : AW X G pc (a0 :: a1 :: a2 :: a3 :: a4 :: a5 :: a6 :: a7 :: .int (nI x) :: t) st S :=
  aw_iinc_8 hX hc hn hd (by rw [show nI x + Int32.ofInt 1 = nI (x + 1) from nI_1 x]; exact k)
theorem aw_iload_9 (hX : XC X G d own cc nL) {a0 a1 a2 a3 a4 a5 a6 a7 a8 : Value} {x : Int32} {t : List Value} (hd : decode cc pc = .ok (.iload 9, 2)) (k : AW X G (pc + 2) (a0 :: a1 :: a2 :: a3 :: a4 :: a5 :: a6 :: a7 :: a8 :: .int x :: t) (.int x :: st) S) : AW X G pc (a0 :: a1 :: a2 :: a3 :: a4 :: a5 :: a6 :: a7 :: a8 :: .int x :: t) (st) S := by
  obtain ⟨p, l, e, R, s, m, args, below, meth, c, cells, slots, Q, A⟩ := X
  exact fun H locs ls hP hS hl => lv_iload hX.1 hX.2.1 hd (hl.get (i := 9) rfl (by intro h; cases h)) (k H locs ls hP hS hl)
theorem aw_istore_9 (hX : XC X G d own cc nL) {a0 a1 a2 a3 a4 a5 a6 a7 a8 : Value} {x : Int32} {b : Value} {t : List Value} (hc : a8.category = 1) (hn : 9 < nL) (hd : decode cc pc = .ok (.istore 9, 2)) (k : AW X G (pc + 2) (a0 :: a1 :: a2 :: a3 :: a4 :: a5 :: a6 :: a7 :: a8 :: .int x :: t) (st) S) : AW X G pc (a0 :: a1 :: a2 :: a3 :: a4 :: a5 :: a6 :: a7 :: a8 :: b :: t) (.int x :: st) S := by
  obtain ⟨p, l, e, R, s, m, args, below, meth, c, cells, slots, Q, A⟩ := X
  exact fun H locs ls hP hS hl => lv_istore hX.1 hX.2.1 hd (hl.lv _) (by rw [hX.2.2.1]; exact hn) rfl (fun ls2 hl2 => k H locs ls2 hP hS (hasL.set hl2 (prevOK (a := a8) (i := 8) rfl hc)))
theorem aw_iinc_9 (hX : XC X G d own cc nL) {a0 a1 a2 a3 a4 a5 a6 a7 a8 : Value} {x : Int32} {n : Int} {t : List Value} (hc : a8.category = 1) (hn : 9 < nL) (hd : decode cc pc = .ok (.iinc 9 n, 3)) (k : AW X G (pc + 3) (a0 :: a1 :: a2 :: a3 :: a4 :: a5 :: a6 :: a7 :: a8 :: .int (x + Int32.ofInt n) :: t) st S) : AW X G pc (a0 :: a1 :: a2 :: a3 :: a4 :: a5 :: a6 :: a7 :: a8 :: .int x :: t) st S := by
  obtain ⟨p, l, e, R, s, m, args, below, meth, c, cells, slots, Q, A⟩ := X
  intro H locs ls hP hS hl
  have hm : (9, Value.int x) ∈ toLv (a0 :: a1 :: a2 :: a3 :: a4 :: a5 :: a6 :: a7 :: a8 :: .int x :: t) (a0 :: a1 :: a2 :: a3 :: a4 :: a5 :: a6 :: a7 :: a8 :: .int x :: t).length := toLv_mem.mpr ⟨by simp, rfl, by intro h; cases h⟩
  obtain ⟨k0, hk0⟩ := List.getElem?_of_mem hm
  exact lv_iinc hX.1 hX.2.1 hd (hl.lv _) hk0 rfl (by rw [hX.2.2.1]; exact hn) rfl (fun ls2 hl2 => k H locs ls2 hP hS (hasL.set hl2 (prevOK (a := a8) (i := 8) rfl hc)))
theorem aw_iinc_9N (hX : XC X G d own cc nL) {a0 a1 a2 a3 a4 a5 a6 a7 a8 : Value} {x : Nat} {t : List Value} (hc : a8.category = 1) (hn : 9 < nL) (hd : decode cc pc = .ok (.iinc 9 1, 3)) (k : AW X G (pc + 3) (a0 :: a1 :: a2 :: a3 :: a4 :: a5 :: a6 :: a7 :: a8 :: .int (nI (x + 1)) :: t) st S) : AW X G pc (a0 :: a1 :: a2 :: a3 :: a4 :: a5 :: a6 :: a7 :: a8 :: .int (nI x) :: t) st S :=
  aw_iinc_9 hX hc hn hd (by rw [show nI x + Int32.ofInt 1 = nI (x + 1) from nI_1 x]; exact k)
theorem aw_iload_10 (hX : XC X G d own cc nL) {a0 a1 a2 a3 a4 a5 a6 a7 a8 a9 : Value} {x : Int32} {t : List Value} (hd : decode cc pc = .ok (.iload 10, 2)) (k : AW X G (pc + 2) (a0 :: a1 :: a2 :: a3 :: a4 :: a5 :: a6 :: a7 :: a8 :: a9 :: .int x :: t) (.int x :: st) S) : AW X G pc (a0 :: a1 :: a2 :: a3 :: a4 :: a5 :: a6 :: a7 :: a8 :: a9 :: .int x :: t) (st) S := by
  obtain ⟨p, l, e, R, s, m, args, below, meth, c, cells, slots, Q, A⟩ := X
  exact fun H locs ls hP hS hl => lv_iload hX.1 hX.2.1 hd (hl.get (i := 10) rfl (by intro h; cases h)) (k H locs ls hP hS hl)
theorem aw_istore_10 (hX : XC X G d own cc nL) {a0 a1 a2 a3 a4 a5 a6 a7 a8 a9 : Value} {x : Int32} {b : Value} {t : List Value} (hc : a9.category = 1) (hn : 10 < nL) (hd : decode cc pc = .ok (.istore 10, 2)) (k : AW X G (pc + 2) (a0 :: a1 :: a2 :: a3 :: a4 :: a5 :: a6 :: a7 :: a8 :: a9 :: .int x :: t) (st) S) : AW X G pc (a0 :: a1 :: a2 :: a3 :: a4 :: a5 :: a6 :: a7 :: a8 :: a9 :: b :: t) (.int x :: st) S := by
  obtain ⟨p, l, e, R, s, m, args, below, meth, c, cells, slots, Q, A⟩ := X
  exact fun H locs ls hP hS hl => lv_istore hX.1 hX.2.1 hd (hl.lv _) (by rw [hX.2.2.1]; exact hn) rfl (fun ls2 hl2 => k H locs ls2 hP hS (hasL.set hl2 (prevOK (a := a9) (i := 9) rfl hc)))
theorem aw_iinc_10 (hX : XC X G d own cc nL) {a0 a1 a2 a3 a4 a5 a6 a7 a8 a9 : Value} {x : Int32} {n : Int} {t : List Value} (hc : a9.category = 1) (hn : 10 < nL) (hd : decode cc pc = .ok (.iinc 10 n, 3)) (k : AW X G (pc + 3) (a0 :: a1 :: a2 :: a3 :: a4 :: a5 :: a6 :: a7 :: a8 :: a9 :: .int (x + Int32.ofInt n) :: t) st S) : AW X G pc (a0 :: a1 :: a2 :: a3 :: a4 :: a5 :: a6 :: a7 :: a8 :: a9 :: .int x :: t) st S := by
  obtain ⟨p, l, e, R, s, m, args, below, meth, c, cells, slots, Q, A⟩ := X
  intro H locs ls hP hS hl
  have hm : (10, Value.int x) ∈ toLv (a0 :: a1 :: a2 :: a3 :: a4 :: a5 :: a6 :: a7 :: a8 :: a9 :: .int x :: t) (a0 :: a1 :: a2 :: a3 :: a4 :: a5 :: a6 :: a7 :: a8 :: a9 :: .int x :: t).length := toLv_mem.mpr ⟨by simp, rfl, by intro h; cases h⟩
  obtain ⟨k0, hk0⟩ := List.getElem?_of_mem hm
  exact lv_iinc hX.1 hX.2.1 hd (hl.lv _) hk0 rfl (by rw [hX.2.2.1]; exact hn) rfl (fun ls2 hl2 => k H locs ls2 hP hS (hasL.set hl2 (prevOK (a := a9) (i := 9) rfl hc)))
theorem aw_iinc_10N (hX : XC X G d own cc nL) {a0 a1 a2 a3 a4 a5 a6 a7 a8 a9 : Value} {x : Nat} {t : List Value} (hc : a9.category = 1) (hn : 10 < nL) (hd : decode cc pc = .ok (.iinc 10 1, 3)) (k : AW X G (pc + 3) (a0 :: a1 :: a2 :: a3 :: a4 :: a5 :: a6 :: a7 :: a8 :: a9 :: .int (nI (x + 1)) :: t) st S) : AW X G pc (a0 :: a1 :: a2 :: a3 :: a4 :: a5 :: a6 :: a7 :: a8 :: a9 :: .int (nI x) :: t) st S :=
  aw_iinc_10 hX hc hn hd (by rw [show nI x + Int32.ofInt 1 = nI (x + 1) from nI_1 x]; exact k)
theorem aw_iald (hX : XC X G d own cc nL) {q n j : Nat} (hd : decode cc pc = .ok (.iaload, 1)) (hq : (gws G S)[q]? = some (gad G q, .inl (gci G, n, .inl (S.2.1 q)))) (hn : n < 2 ^ 31) (hj : j < n) (k : AW X G (pc + 1) L (.int (S.2.1 q j) :: st) S) : AW X G pc L (.int (nI j) :: .ref (gad G q) :: st) S := by
  obtain ⟨p, l, e, R, s, m, args, below, meth, c, cells, slots, Q, A⟩ := X
  refine fun H locs ls hP hS hl => va_iald hX.1 hX.2.1 hX.2.2.2.2.2.1 hP q 0 hq rfl (vp_in_nI hj hn) hd ?_
  rw [nI_clamp (by omega)]
  exact k H locs ls hP hS hl
theorem aw_zald (hX : XC X G d own cc nL) {q n j : Nat} (hd : decode cc pc = .ok (.baload, 1)) (hq : (gws G S)[q]? = some (gad G q, .inl (gcz G, n, .inl (S.2.1 q)))) (hn : n < 2 ^ 31) (hj : j < n) (k : AW X G (pc + 1) L (.int (S.2.1 q j) :: st) S) : AW X G pc L (.int (nI j) :: .ref (gad G q) :: st) S := by
  obtain ⟨p, l, e, R, s, m, args, below, meth, c, cells, slots, Q, A⟩ := X
  refine fun H locs ls hP hS hl => va_zald hX.1 hX.2.1 hX.2.2.2.2.2.1 hP q 1 hq rfl (vp_in_nI hj hn) hd ?_
  rw [nI_clamp (by omega)]
  exact k H locs ls hP hS hl
theorem aw_iast (hX : XC X G d own cc nL) {q n j : Nat} {x : Int32} (hd : decode cc pc = .ok (.iastore, 1)) (hq : (gws G S)[q]? = some (gad G q, .inl (gci G, n, .inl (S.2.1 q)))) (hs : ∀ f, (gws G S).set q (gad G q, .inl (gci G, n, .inl (upd (S.2.1 q) j f))) = gws G (sA S q j f)) (hn : n < 2 ^ 31) (hj : j < n) (k : AW X G (pc + 1) L st (sA S q j x)) : AW X G pc L (.int x :: .int (nI j) :: .ref (gad G q) :: st) S := by
  obtain ⟨p, l, e, R, s, m, args, below, meth, c, cells, slots, Q, A⟩ := X
  refine fun H locs ls hP hS hl => va_iast hX.1 hX.2.1 hX.2.2.2.2.2.1 hP (gws_D hX.2.2.2.2.2.2.1 hX.2.2.2.2.2.2.2.1) hS q 0 hq rfl (vp_in_nI hj hn) hd (fun H1 locs1 hP1 _ hS1 => ?_)
  rw [nI_clamp (by omega), hs] at hP1
  exact k H1 locs1 ls hP1 hS1 hl
theorem aw_zast (hX : XC X G d own cc nL) {q n j : Nat} {b : Bool} (hd : decode cc pc = .ok (.bastore, 1)) (hq : (gws G S)[q]? = some (gad G q, .inl (gcz G, n, .inl (S.2.1 q)))) (hs : ∀ f, (gws G S).set q (gad G q, .inl (gcz G, n, .inl (upd (S.2.1 q) j f))) = gws G (sA S q j f)) (hn : n < 2 ^ 31) (hj : j < n) (k : AW X G (pc + 1) L st (sA S q j (bI b))) : AW X G pc L (.int (bI b) :: .int (nI j) :: .ref (gad G q) :: st) S := by
  obtain ⟨p, l, e, R, s, m, args, below, meth, c, cells, slots, Q, A⟩ := X
  refine fun H locs ls hP hS hl => va_zast hX.1 hX.2.1 hX.2.2.2.2.2.1 hP (gws_D hX.2.2.2.2.2.2.1 hX.2.2.2.2.2.2.2.1) hS q 1 hq rfl (vp_in_nI hj hn) hd (fun H1 locs1 hP1 _ hS1 => ?_)
  rw [nI_clamp (by omega), hs, show vp_nar .boolean (bI b) = bI b by cases b <;> rfl] at hP1
  exact k H1 locs1 ls hP1 hS1 hl
theorem aw_alen (hX : XC X G d own cc nL) {q n : Nat} (hd : decode cc pc = .ok (.arraylength, 1)) (hq : (gws G S)[q]? = some (gad G q, .inl (gci G, n, .inl (S.2.1 q)))) (k : AW X G (pc + 1) L (.int (nI n) :: st) S) : AW X G pc L (.ref (gad G q) :: st) S := by
  obtain ⟨p, l, e, R, s, m, args, below, meth, c, cells, slots, Q, A⟩ := X
  exact fun H locs ls hP hS hl => va_alen hX.1 hX.2.1 hX.2.2.2.2.2.1 hP q 0 hq (ty := .int) rfl rfl hd (k H locs ls hP hS hl)
theorem aw_tald (hX : XC X G d own cc nL) {j : Nat} (hd : decode cc pc = .ok (.iaload, 1)) (hj : j < 3) (k : AW X G (pc + 1) L (.int (gpull j) :: st) S) : AW X G pc L (.int (nI j) :: .ref (gtq G) :: st) S := by
  obtain ⟨p, l, e, R, s, m, args, below, meth, c, cells, slots, Q, A⟩ := X
  refine fun H locs ls hP hS hl => va_ti hX.1 hX.2.1 hX.2.2.2.2.2.2.2.2.2.1.2 hS (vp_in_nI hj (by decide)) (v := .int (gpull j)) (by rw [nI_clamp (by omega)]) hd (k H locs ls hP hS hl)
end AWR
end
section
theorem tbl_good : ∀ w ∈ gtbl, goodWord w = true := fun w h => (List.mem_filter.mp h).2
theorem inX0 : ∀ w ∈ wsX00, w ∈ gtbl := fun w h => List.mem_filter.mpr ⟨(show ∀ w ∈ wsX00, w ∈ lw_tbl by decide +kernel) w h, (show ∀ w ∈ wsX00, goodWord w = true by decide +kernel) w h⟩
theorem inX1 : ∀ w ∈ wsX10, w ∈ gtbl := fun w h => List.mem_filter.mpr ⟨(show ∀ w ∈ wsX10, w ∈ lw_tbl by decide +kernel) w h, (show ∀ w ∈ wsX10, goodWord w = true by decide +kernel) w h⟩
theorem inX2 : ∀ w ∈ wsX20, w ∈ gtbl := fun w h => List.mem_filter.mpr ⟨(show ∀ w ∈ wsX20, w ∈ lw_tbl by decide +kernel) w h, (show ∀ w ∈ wsX20, goodWord w = true by decide +kernel) w h⟩
theorem inX3 : ∀ w ∈ wsX30, w ∈ gtbl := fun w h => List.mem_filter.mpr ⟨(show ∀ w ∈ wsX30, w ∈ lw_tbl by decide +kernel) w h, (show ∀ w ∈ wsX30, goodWord w = true by decide +kernel) w h⟩
theorem inX4 : ∀ w ∈ wsX40, w ∈ gtbl := fun w h => List.mem_filter.mpr ⟨(show ∀ w ∈ wsX40, w ∈ lw_tbl by decide +kernel) w h, (show ∀ w ∈ wsX40, goodWord w = true by decide +kernel) w h⟩
theorem inX5 : ∀ w ∈ wsX50, w ∈ gtbl := fun w h => List.mem_filter.mpr ⟨(show ∀ w ∈ wsX50, w ∈ lw_tbl by decide +kernel) w h, (show ∀ w ∈ wsX50, goodWord w = true by decide +kernel) w h⟩
theorem inX6 : ∀ w ∈ wsX60, w ∈ gtbl := fun w h => List.mem_filter.mpr ⟨(show ∀ w ∈ wsX60, w ∈ lw_tbl by decide +kernel) w h, (show ∀ w ∈ wsX60, goodWord w = true by decide +kernel) w h⟩
theorem inX7 : ∀ w ∈ wsX70, w ∈ gtbl := fun w h => List.mem_filter.mpr ⟨(show ∀ w ∈ wsX70, w ∈ lw_tbl by decide +kernel) w h, (show ∀ w ∈ wsX70, goodWord w = true by decide +kernel) w h⟩
theorem inX8 : ∀ w ∈ wsX80, w ∈ gtbl := fun w h => List.mem_filter.mpr ⟨(show ∀ w ∈ wsX80, w ∈ lw_tbl by decide +kernel) w h, (show ∀ w ∈ wsX80, goodWord w = true by decide +kernel) w h⟩
theorem se_yX0_readStep : Cond.selects RX0 yX0_readStep yX0_readStep ∈ gtbl := List.mem_filter.mpr ⟨List.mem_of_getElem? (i := 0) (by decide +kernel), rfl⟩
theorem se_yX0_readFrom : Cond.selects RX0 yX0_readFrom yX0_readFrom ∈ gtbl := List.mem_filter.mpr ⟨List.mem_of_getElem? (i := 1) (by decide +kernel), rfl⟩
theorem se_yX0_readNumber : Cond.selects RX0 yX0_readNumber yX0_readNumber ∈ gtbl := List.mem_filter.mpr ⟨List.mem_of_getElem? (i := 2) (by decide +kernel), rfl⟩
theorem se_yX0_digitAtPlace : Cond.selects RX0 yX0_digitAtPlace yX0_digitAtPlace ∈ gtbl := List.mem_filter.mpr ⟨List.mem_of_getElem? (i := 3) (by decide +kernel), rfl⟩
theorem se_yX0_readSpan : Cond.selects RX0 yX0_readSpan yX0_readSpan ∈ gtbl := List.mem_filter.mpr ⟨List.mem_of_getElem? (i := 4) (by decide +kernel), rfl⟩
theorem se_yX3_inForce : Cond.selects RX3 yX3_inForce yX3_inForce ∈ gtbl := List.mem_filter.mpr ⟨List.mem_of_getElem? (i := 5) (by decide +kernel), rfl⟩
theorem se_yX7_straightPull : Cond.selects RX7 yX7_straightPull yX7_straightPull ∈ gtbl := List.mem_filter.mpr ⟨List.mem_of_getElem? (i := 6) (by decide +kernel), rfl⟩
theorem se_yX7_bentPull : Cond.selects RX7 yX7_bentPull yX7_bentPull ∈ gtbl := List.mem_filter.mpr ⟨List.mem_of_getElem? (i := 7) (by decide +kernel), rfl⟩
theorem se_yX7_sharedPull : Cond.selects RX7 yX7_sharedPull yX7_sharedPull ∈ gtbl := List.mem_filter.mpr ⟨List.mem_of_getElem? (i := 8) (by decide +kernel), rfl⟩
theorem se_yX7_sweptBy : Cond.selects RX7 yX7_sweptBy yX7_sweptBy ∈ gtbl := List.mem_filter.mpr ⟨List.mem_of_getElem? (i := 9) (by decide +kernel), rfl⟩
theorem se_yX7_isForbidden : Cond.selects RX7 yX7_isForbidden yX7_isForbidden ∈ gtbl := List.mem_filter.mpr ⟨List.mem_of_getElem? (i := 10) (by decide +kernel), rfl⟩
theorem se_yX7_doerOf : Cond.selects RX7 yX7_doerOf yX7_doerOf ∈ gtbl := List.mem_filter.mpr ⟨List.mem_of_getElem? (i := 11) (by decide +kernel), rfl⟩
theorem se_yX7_nearestHand : Cond.selects RX7 yX7_nearestHand yX7_nearestHand ∈ gtbl := List.mem_filter.mpr ⟨List.mem_of_getElem? (i := 12) (by decide +kernel), rfl⟩
theorem se_yX7_leastHandNotIll : Cond.selects RX7 yX7_leastHandNotIll yX7_leastHandNotIll ∈ gtbl := List.mem_filter.mpr ⟨List.mem_of_getElem? (i := 13) (by decide +kernel), rfl⟩
theorem se_yX7_dueOf : Cond.selects RX7 yX7_dueOf yX7_dueOf ∈ gtbl := List.mem_filter.mpr ⟨List.mem_of_getElem? (i := 14) (by decide +kernel), rfl⟩
theorem se_yX7_wasBeyond : Cond.selects RX7 yX7_wasBeyond yX7_wasBeyond ∈ gtbl := List.mem_filter.mpr ⟨List.mem_of_getElem? (i := 15) (by decide +kernel), rfl⟩
theorem se_yX7_sweeperBy : Cond.selects RX7 yX7_sweeperBy yX7_sweeperBy ∈ gtbl := List.mem_filter.mpr ⟨List.mem_of_getElem? (i := 16) (by decide +kernel), rfl⟩
theorem se_yX7_waitingSince : Cond.selects RX7 yX7_waitingSince yX7_waitingSince ∈ gtbl := List.mem_filter.mpr ⟨List.mem_of_getElem? (i := 17) (by decide +kernel), rfl⟩
theorem se_yX6_keepTried : Cond.selects RX6 yX6_keepTried yX6_keepTried ∈ gtbl := List.mem_filter.mpr ⟨List.mem_of_getElem? (i := 18) (by decide +kernel), rfl⟩
theorem se_yX8_faultAlone : Cond.selects RX8 yX8_faultAlone yX8_faultAlone ∈ gtbl := List.mem_filter.mpr ⟨List.mem_of_getElem? (i := 19) (by decide +kernel), rfl⟩
theorem se_yX8_reads : Cond.selects RX8 yX8_reads yX8_reads ∈ gtbl := List.mem_filter.mpr ⟨List.mem_of_getElem? (i := 20) (by decide +kernel), rfl⟩
theorem se_yX8_isDigit : Cond.selects RX8 yX8_isDigit yX8_isDigit ∈ gtbl := List.mem_filter.mpr ⟨List.mem_of_getElem? (i := 21) (by decide +kernel), rfl⟩
theorem se_yX8_spanBy : Cond.selects RX8 yX8_spanBy yX8_spanBy ∈ gtbl := List.mem_filter.mpr ⟨List.mem_of_getElem? (i := 22) (by decide +kernel), rfl⟩
theorem se_yX8_isFlue : Cond.selects RX8 yX8_isFlue yX8_isFlue ∈ gtbl := List.mem_filter.mpr ⟨List.mem_of_getElem? (i := 23) (by decide +kernel), rfl⟩
theorem se_yX8_of : Cond.selects RX8 yX8_of yX8_of ∈ gtbl := List.mem_filter.mpr ⟨List.mem_of_getElem? (i := 24) (by decide +kernel), rfl⟩
theorem se_yX8_isForbidden : Cond.selects RX8 yX8_isForbidden yX8_isForbidden ∈ gtbl := List.mem_filter.mpr ⟨List.mem_of_getElem? (i := 25) (by decide +kernel), rfl⟩
theorem se_yX8_knownOn : Cond.selects RX8 yX8_knownOn yX8_knownOn ∈ gtbl := List.mem_filter.mpr ⟨List.mem_of_getElem? (i := 26) (by decide +kernel), rfl⟩
theorem se_yX8_doer : Cond.selects RX8 yX8_doer yX8_doer ∈ gtbl := List.mem_filter.mpr ⟨List.mem_of_getElem? (i := 27) (by decide +kernel), rfl⟩
theorem se_yX8_dueBy : Cond.selects RX8 yX8_dueBy yX8_dueBy ∈ gtbl := List.mem_filter.mpr ⟨List.mem_of_getElem? (i := 28) (by decide +kernel), rfl⟩
theorem se_yX8_wayOf : Cond.selects RX8 yX8_wayOf yX8_wayOf ∈ gtbl := List.mem_filter.mpr ⟨List.mem_of_getElem? (i := 29) (by decide +kernel), rfl⟩
theorem se_yX8_goesOn : Cond.selects RX8 yX8_goesOn yX8_goesOn ∈ gtbl := List.mem_filter.mpr ⟨List.mem_of_getElem? (i := 30) (by decide +kernel), rfl⟩
theorem in_L : Cond.initialized RL ∈ gtbl := List.mem_filter.mpr ⟨List.mem_of_getElem? (i := 31) (by decide +kernel), rfl⟩
theorem in_X7 : Cond.initialized RX7 ∈ gtbl := List.mem_filter.mpr ⟨List.mem_of_getElem? (i := 32) (by decide +kernel), rfl⟩
theorem in_X0 : Cond.initialized RX0 ∈ gtbl := List.mem_filter.mpr ⟨List.mem_of_getElem? (i := 33) (by decide +kernel), rfl⟩
theorem in_X3 : Cond.initialized RX3 ∈ gtbl := List.mem_filter.mpr ⟨List.mem_of_getElem? (i := 34) (by decide +kernel), rfl⟩
theorem in_X2 : Cond.initialized RX2 ∈ gtbl := List.mem_filter.mpr ⟨List.mem_of_getElem? (i := 35) (by decide +kernel), rfl⟩
theorem in_X4 : Cond.initialized RX4 ∈ gtbl := List.mem_filter.mpr ⟨List.mem_of_getElem? (i := 36) (by decide +kernel), rfl⟩
theorem in_X1 : Cond.initialized RX1 ∈ gtbl := List.mem_filter.mpr ⟨List.mem_of_getElem? (i := 37) (by decide +kernel), rfl⟩
theorem in_X5 : Cond.initialized RX5 ∈ gtbl := List.mem_filter.mpr ⟨List.mem_of_getElem? (i := 38) (by decide +kernel), rfl⟩
theorem in_X6 : Cond.initialized RX6 ∈ gtbl := List.mem_filter.mpr ⟨List.mem_of_getElem? (i := 39) (by decide +kernel), rfl⟩
theorem in_X8 : Cond.initialized RX8 ∈ gtbl := List.mem_filter.mpr ⟨List.mem_of_getElem? (i := 40) (by decide +kernel), rfl⟩
theorem in_J9 : Cond.initialized RJ9 ∈ gtbl := List.mem_filter.mpr ⟨List.mem_of_getElem? (i := 41) (by decide +kernel), rfl⟩
theorem kl_L_7 : Cond.classLink RL 7 RX7 ∈ gtbl := List.mem_filter.mpr ⟨List.mem_of_getElem? (i := 42) (by decide +kernel), rfl⟩
theorem ia_X7 : Cond.instantiable RX7 11 ∈ gtbl := List.mem_filter.mpr ⟨List.mem_of_getElem? (i := 43) (by decide +kernel), rfl⟩
theorem ml_L_9 : Cond.methodLink RL 9 yX7_init ∈ gtbl := List.mem_filter.mpr ⟨List.mem_of_getElem? (i := 44) (by decide +kernel), rfl⟩
theorem im_yX7_init : Cond.instanceMethod yX7_init ∈ gtbl := List.mem_filter.mpr ⟨List.mem_of_getElem? (i := 45) (by decide +kernel), rfl⟩
theorem co_yX7_init : Cond.code yX7_init cX7_init 1 none ∈ gtbl := List.mem_filter.mpr ⟨List.mem_of_getElem? (i := 46) (by decide +kernel), rfl⟩
theorem ml_X7_1 : Cond.methodLink RX7 1 Lib.objectInit ∈ gtbl := List.mem_filter.mpr ⟨List.mem_of_getElem? (i := 47) (by decide +kernel), rfl⟩
theorem im_Lib_objectInit : Cond.instanceMethod Lib.objectInit ∈ gtbl := List.mem_filter.mpr ⟨List.mem_of_getElem? (i := 48) (by decide +kernel), rfl⟩
theorem co_objinit : Cond.code Lib.objectInit ⟨#[0xb1]⟩ 1 none ∈ gtbl := List.mem_filter.mpr ⟨List.mem_of_getElem? (i := 49) (by decide +kernel), rfl⟩
theorem kl_X7_7 : Cond.classLink RX7 7 RX0 ∈ gtbl := List.mem_filter.mpr ⟨List.mem_of_getElem? (i := 50) (by decide +kernel), rfl⟩
theorem ia_X0 : Cond.instantiable RX0 9 ∈ gtbl := List.mem_filter.mpr ⟨List.mem_of_getElem? (i := 51) (by decide +kernel), rfl⟩
theorem mn_X7_9 : Cond.methodLinkNest RX7 9 yX0_init "FlueRounds" ∈ lw_tbl := List.mem_of_getElem? (i := 52) (by decide +kernel)
theorem im_yX0_init : Cond.instanceMethod yX0_init ∈ gtbl := List.mem_filter.mpr ⟨List.mem_of_getElem? (i := 53) (by decide +kernel), rfl⟩
theorem co_yX0_init : Cond.code yX0_init cX0_init 1 none ∈ gtbl := List.mem_filter.mpr ⟨List.mem_of_getElem? (i := 54) (by decide +kernel), rfl⟩
theorem ml_X0_3 : Cond.methodLink RX0 3 Lib.objectInit ∈ gtbl := List.mem_filter.mpr ⟨List.mem_of_getElem? (i := 55) (by decide +kernel), rfl⟩
theorem fl_X0_11 : Cond.fieldLink RX0 11 "FlueRounds$Draft" "bytes" "[I" ∈ gtbl := List.mem_filter.mpr ⟨List.mem_of_getElem? (i := 56) (by decide +kernel), rfl⟩
theorem fl_X0_15 : Cond.fieldLink RX0 15 "FlueRounds$Draft" "size" "I" ∈ gtbl := List.mem_filter.mpr ⟨List.mem_of_getElem? (i := 57) (by decide +kernel), rfl⟩
theorem fl_X7_85 : Cond.fieldLink RX7 85 "FlueRounds$Draft" "size" "I" ∈ gtbl := List.mem_filter.mpr ⟨List.mem_of_getElem? (i := 58) (by decide +kernel), rfl⟩
theorem fl_X0_19 : Cond.fieldLink RX0 19 "FlueRounds$Draft" "itemFuel" "[I" ∈ gtbl := List.mem_filter.mpr ⟨List.mem_of_getElem? (i := 59) (by decide +kernel), rfl⟩
theorem fl_X3_36 : Cond.fieldLink RX3 36 "FlueRounds$Draft" "itemFuel" "[I" ∈ gtbl := List.mem_filter.mpr ⟨List.mem_of_getElem? (i := 60) (by decide +kernel), rfl⟩
theorem fl_X0_22 : Cond.fieldLink RX0 22 "FlueRounds$Draft" "itemSpan" "[I" ∈ gtbl := List.mem_filter.mpr ⟨List.mem_of_getElem? (i := 61) (by decide +kernel), rfl⟩
theorem fl_X3_37 : Cond.fieldLink RX3 37 "FlueRounds$Draft" "itemSpan" "[I" ∈ gtbl := List.mem_filter.mpr ⟨List.mem_of_getElem? (i := 62) (by decide +kernel), rfl⟩
theorem fl_X0_25 : Cond.fieldLink RX0 25 "FlueRounds$Draft" "itemFrom" "[I" ∈ gtbl := List.mem_filter.mpr ⟨List.mem_of_getElem? (i := 63) (by decide +kernel), rfl⟩
theorem fl_X3_38 : Cond.fieldLink RX3 38 "FlueRounds$Draft" "itemFrom" "[I" ∈ gtbl := List.mem_filter.mpr ⟨List.mem_of_getElem? (i := 64) (by decide +kernel), rfl⟩
theorem fl_X0_28 : Cond.fieldLink RX0 28 "FlueRounds$Draft" "items" "I" ∈ gtbl := List.mem_filter.mpr ⟨List.mem_of_getElem? (i := 65) (by decide +kernel), rfl⟩
theorem fl_X3_33 : Cond.fieldLink RX3 33 "FlueRounds$Draft" "items" "I" ∈ gtbl := List.mem_filter.mpr ⟨List.mem_of_getElem? (i := 66) (by decide +kernel), rfl⟩
theorem fl_X0_31 : Cond.fieldLink RX0 31 "FlueRounds$Draft" "place" "I" ∈ gtbl := List.mem_filter.mpr ⟨List.mem_of_getElem? (i := 67) (by decide +kernel), rfl⟩
theorem fl_X0_34 : Cond.fieldLink RX0 34 "FlueRounds$Draft" "number" "I" ∈ gtbl := List.mem_filter.mpr ⟨List.mem_of_getElem? (i := 68) (by decide +kernel), rfl⟩
theorem fl_X0_37 : Cond.fieldLink RX0 37 "FlueRounds$Draft" "from" "I" ∈ gtbl := List.mem_filter.mpr ⟨List.mem_of_getElem? (i := 69) (by decide +kernel), rfl⟩
theorem ac_int : Cond.arrayClass .int ∈ gtbl := List.mem_filter.mpr ⟨List.mem_of_getElem? (i := 89) (by decide +kernel), rfl⟩
theorem kl_X7_16 : Cond.classLink RX7 16 RX3 ∈ gtbl := List.mem_filter.mpr ⟨List.mem_of_getElem? (i := 90) (by decide +kernel), rfl⟩
theorem ia_X3 : Cond.instantiable RX3 6 ∈ gtbl := List.mem_filter.mpr ⟨List.mem_of_getElem? (i := 91) (by decide +kernel), rfl⟩
theorem mn_X7_18 : Cond.methodLinkNest RX7 18 yX3_init "FlueRounds" ∈ lw_tbl := List.mem_of_getElem? (i := 92) (by decide +kernel)
theorem im_yX3_init : Cond.instanceMethod yX3_init ∈ gtbl := List.mem_filter.mpr ⟨List.mem_of_getElem? (i := 93) (by decide +kernel), rfl⟩
theorem co_yX3_init : Cond.code yX3_init cX3_init 1 none ∈ gtbl := List.mem_filter.mpr ⟨List.mem_of_getElem? (i := 94) (by decide +kernel), rfl⟩
theorem ml_X3_3 : Cond.methodLink RX3 3 Lib.objectInit ∈ gtbl := List.mem_filter.mpr ⟨List.mem_of_getElem? (i := 95) (by decide +kernel), rfl⟩
theorem fl_X3_11 : Cond.fieldLink RX3 11 "FlueRounds$LawBook" "told" "[I" ∈ gtbl := List.mem_filter.mpr ⟨List.mem_of_getElem? (i := 96) (by decide +kernel), rfl⟩
theorem fl_X3_15 : Cond.fieldLink RX3 15 "FlueRounds$LawBook" "start" "[I" ∈ gtbl := List.mem_filter.mpr ⟨List.mem_of_getElem? (i := 97) (by decide +kernel), rfl⟩
theorem fl_X3_20 : Cond.fieldLink RX3 20 "FlueRounds$LawBook" "itemFuel" "[I" ∈ gtbl := List.mem_filter.mpr ⟨List.mem_of_getElem? (i := 98) (by decide +kernel), rfl⟩
theorem fl_X3_23 : Cond.fieldLink RX3 23 "FlueRounds$LawBook" "itemSpan" "[I" ∈ gtbl := List.mem_filter.mpr ⟨List.mem_of_getElem? (i := 99) (by decide +kernel), rfl⟩
theorem fl_X3_26 : Cond.fieldLink RX3 26 "FlueRounds$LawBook" "itemFrom" "[I" ∈ gtbl := List.mem_filter.mpr ⟨List.mem_of_getElem? (i := 100) (by decide +kernel), rfl⟩
theorem fl_X3_29 : Cond.fieldLink RX3 29 "FlueRounds$LawBook" "size" "I" ∈ gtbl := List.mem_filter.mpr ⟨List.mem_of_getElem? (i := 101) (by decide +kernel), rfl⟩
theorem fl_X7_243 : Cond.fieldLink RX7 243 "FlueRounds$LawBook" "size" "I" ∈ gtbl := List.mem_filter.mpr ⟨List.mem_of_getElem? (i := 102) (by decide +kernel), rfl⟩
theorem kl_X7_23 : Cond.classLink RX7 23 RX2 ∈ gtbl := List.mem_filter.mpr ⟨List.mem_of_getElem? (i := 116) (by decide +kernel), rfl⟩
theorem ia_X2 : Cond.instantiable RX2 12 ∈ gtbl := List.mem_filter.mpr ⟨List.mem_of_getElem? (i := 117) (by decide +kernel), rfl⟩
theorem mn_X7_25 : Cond.methodLinkNest RX7 25 yX2_init "FlueRounds" ∈ lw_tbl := List.mem_of_getElem? (i := 118) (by decide +kernel)
theorem im_yX2_init : Cond.instanceMethod yX2_init ∈ gtbl := List.mem_filter.mpr ⟨List.mem_of_getElem? (i := 119) (by decide +kernel), rfl⟩
theorem co_yX2_init : Cond.code yX2_init cX2_init 1 none ∈ gtbl := List.mem_filter.mpr ⟨List.mem_of_getElem? (i := 120) (by decide +kernel), rfl⟩
theorem ml_X2_3 : Cond.methodLink RX2 3 Lib.objectInit ∈ gtbl := List.mem_filter.mpr ⟨List.mem_of_getElem? (i := 121) (by decide +kernel), rfl⟩
theorem fl_X2_11 : Cond.fieldLink RX2 11 "FlueRounds$Flues" "kind" "[I" ∈ gtbl := List.mem_filter.mpr ⟨List.mem_of_getElem? (i := 122) (by decide +kernel), rfl⟩
theorem fl_X7_132 : Cond.fieldLink RX7 132 "FlueRounds$Flues" "kind" "[I" ∈ gtbl := List.mem_filter.mpr ⟨List.mem_of_getElem? (i := 123) (by decide +kernel), rfl⟩
theorem fl_X2_15 : Cond.fieldLink RX2 15 "FlueRounds$Flues" "fuel" "[I" ∈ gtbl := List.mem_filter.mpr ⟨List.mem_of_getElem? (i := 124) (by decide +kernel), rfl⟩
theorem fl_X7_146 : Cond.fieldLink RX7 146 "FlueRounds$Flues" "fuel" "[I" ∈ gtbl := List.mem_filter.mpr ⟨List.mem_of_getElem? (i := 125) (by decide +kernel), rfl⟩
theorem fl_X2_18 : Cond.fieldLink RX2 18 "FlueRounds$Flues" "height" "[I" ∈ gtbl := List.mem_filter.mpr ⟨List.mem_of_getElem? (i := 126) (by decide +kernel), rfl⟩
theorem fl_X7_149 : Cond.fieldLink RX7 149 "FlueRounds$Flues" "height" "[I" ∈ gtbl := List.mem_filter.mpr ⟨List.mem_of_getElem? (i := 127) (by decide +kernel), rfl⟩
theorem fl_X2_21 : Cond.fieldLink RX2 21 "FlueRounds$Flues" "width" "[I" ∈ gtbl := List.mem_filter.mpr ⟨List.mem_of_getElem? (i := 128) (by decide +kernel), rfl⟩
theorem fl_X2_24 : Cond.fieldLink RX2 24 "FlueRounds$Flues" "bends" "[I" ∈ gtbl := List.mem_filter.mpr ⟨List.mem_of_getElem? (i := 129) (by decide +kernel), rfl⟩
theorem fl_X7_252 : Cond.fieldLink RX7 252 "FlueRounds$Flues" "bends" "[I" ∈ gtbl := List.mem_filter.mpr ⟨List.mem_of_getElem? (i := 130) (by decide +kernel), rfl⟩
theorem fl_X2_27 : Cond.fieldLink RX2 27 "FlueRounds$Flues" "x" "[I" ∈ gtbl := List.mem_filter.mpr ⟨List.mem_of_getElem? (i := 131) (by decide +kernel), rfl⟩
theorem fl_X7_223 : Cond.fieldLink RX7 223 "FlueRounds$Flues" "x" "[I" ∈ gtbl := List.mem_filter.mpr ⟨List.mem_of_getElem? (i := 132) (by decide +kernel), rfl⟩
theorem fl_X2_30 : Cond.fieldLink RX2 30 "FlueRounds$Flues" "y" "[I" ∈ gtbl := List.mem_filter.mpr ⟨List.mem_of_getElem? (i := 133) (by decide +kernel), rfl⟩
theorem fl_X7_226 : Cond.fieldLink RX7 226 "FlueRounds$Flues" "y" "[I" ∈ gtbl := List.mem_filter.mpr ⟨List.mem_of_getElem? (i := 134) (by decide +kernel), rfl⟩
theorem fl_X2_33 : Cond.fieldLink RX2 33 "FlueRounds$Flues" "hand" "[I" ∈ gtbl := List.mem_filter.mpr ⟨List.mem_of_getElem? (i := 135) (by decide +kernel), rfl⟩
theorem fl_X7_152 : Cond.fieldLink RX7 152 "FlueRounds$Flues" "hand" "[I" ∈ gtbl := List.mem_filter.mpr ⟨List.mem_of_getElem? (i := 136) (by decide +kernel), rfl⟩
theorem fl_X2_36 : Cond.fieldLink RX2 36 "FlueRounds$Flues" "came" "[I" ∈ gtbl := List.mem_filter.mpr ⟨List.mem_of_getElem? (i := 137) (by decide +kernel), rfl⟩
theorem fl_X7_181 : Cond.fieldLink RX7 181 "FlueRounds$Flues" "came" "[I" ∈ gtbl := List.mem_filter.mpr ⟨List.mem_of_getElem? (i := 138) (by decide +kernel), rfl⟩
theorem fl_X2_39 : Cond.fieldLink RX2 39 "FlueRounds$Flues" "refusals" "[I" ∈ gtbl := List.mem_filter.mpr ⟨List.mem_of_getElem? (i := 139) (by decide +kernel), rfl⟩
theorem fl_X7_158 : Cond.fieldLink RX7 158 "FlueRounds$Flues" "refusals" "[I" ∈ gtbl := List.mem_filter.mpr ⟨List.mem_of_getElem? (i := 140) (by decide +kernel), rfl⟩
theorem fl_X2_42 : Cond.fieldLink RX2 42 "FlueRounds$Flues" "waiting" "[I" ∈ gtbl := List.mem_filter.mpr ⟨List.mem_of_getElem? (i := 141) (by decide +kernel), rfl⟩
theorem fl_X7_210 : Cond.fieldLink RX7 210 "FlueRounds$Flues" "waiting" "[I" ∈ gtbl := List.mem_filter.mpr ⟨List.mem_of_getElem? (i := 142) (by decide +kernel), rfl⟩
theorem fl_X2_45 : Cond.fieldLink RX2 45 "FlueRounds$Flues" "size" "I" ∈ gtbl := List.mem_filter.mpr ⟨List.mem_of_getElem? (i := 143) (by decide +kernel), rfl⟩
theorem fl_X7_174 : Cond.fieldLink RX7 174 "FlueRounds$Flues" "size" "I" ∈ gtbl := List.mem_filter.mpr ⟨List.mem_of_getElem? (i := 144) (by decide +kernel), rfl⟩
theorem kl_X7_30 : Cond.classLink RX7 30 RX4 ∈ gtbl := List.mem_filter.mpr ⟨List.mem_of_getElem? (i := 170) (by decide +kernel), rfl⟩
theorem ia_X4 : Cond.instantiable RX4 5 ∈ gtbl := List.mem_filter.mpr ⟨List.mem_of_getElem? (i := 171) (by decide +kernel), rfl⟩
theorem mn_X7_32 : Cond.methodLinkNest RX7 32 yX4_init "FlueRounds" ∈ lw_tbl := List.mem_of_getElem? (i := 172) (by decide +kernel)
theorem im_yX4_init : Cond.instanceMethod yX4_init ∈ gtbl := List.mem_filter.mpr ⟨List.mem_of_getElem? (i := 173) (by decide +kernel), rfl⟩
theorem co_yX4_init : Cond.code yX4_init cX4_init 1 none ∈ gtbl := List.mem_filter.mpr ⟨List.mem_of_getElem? (i := 174) (by decide +kernel), rfl⟩
theorem ml_X4_3 : Cond.methodLink RX4 3 Lib.objectInit ∈ gtbl := List.mem_filter.mpr ⟨List.mem_of_getElem? (i := 175) (by decide +kernel), rfl⟩
theorem fl_X4_11 : Cond.fieldLink RX4 11 "FlueRounds$Looks" "flue" "[I" ∈ gtbl := List.mem_filter.mpr ⟨List.mem_of_getElem? (i := 176) (by decide +kernel), rfl⟩
theorem fl_X4_15 : Cond.fieldLink RX4 15 "FlueRounds$Looks" "day" "[I" ∈ gtbl := List.mem_filter.mpr ⟨List.mem_of_getElem? (i := 177) (by decide +kernel), rfl⟩
theorem fl_X4_18 : Cond.fieldLink RX4 18 "FlueRounds$Looks" "told" "[I" ∈ gtbl := List.mem_filter.mpr ⟨List.mem_of_getElem? (i := 178) (by decide +kernel), rfl⟩
theorem fl_X4_21 : Cond.fieldLink RX4 21 "FlueRounds$Looks" "finding" "[I" ∈ gtbl := List.mem_filter.mpr ⟨List.mem_of_getElem? (i := 179) (by decide +kernel), rfl⟩
theorem fl_X4_24 : Cond.fieldLink RX4 24 "FlueRounds$Looks" "size" "I" ∈ gtbl := List.mem_filter.mpr ⟨List.mem_of_getElem? (i := 180) (by decide +kernel), rfl⟩
theorem fl_X7_244 : Cond.fieldLink RX7 244 "FlueRounds$Looks" "size" "I" ∈ gtbl := List.mem_filter.mpr ⟨List.mem_of_getElem? (i := 181) (by decide +kernel), rfl⟩
theorem kl_X7_37 : Cond.classLink RX7 37 RX1 ∈ gtbl := List.mem_filter.mpr ⟨List.mem_of_getElem? (i := 193) (by decide +kernel), rfl⟩
theorem ia_X1 : Cond.instantiable RX1 3 ∈ gtbl := List.mem_filter.mpr ⟨List.mem_of_getElem? (i := 194) (by decide +kernel), rfl⟩
theorem mn_X7_39 : Cond.methodLinkNest RX7 39 yX1_init "FlueRounds" ∈ lw_tbl := List.mem_of_getElem? (i := 195) (by decide +kernel)
theorem im_yX1_init : Cond.instanceMethod yX1_init ∈ gtbl := List.mem_filter.mpr ⟨List.mem_of_getElem? (i := 196) (by decide +kernel), rfl⟩
theorem co_yX1_init : Cond.code yX1_init cX1_init 1 none ∈ gtbl := List.mem_filter.mpr ⟨List.mem_of_getElem? (i := 197) (by decide +kernel), rfl⟩
theorem ml_X1_1 : Cond.methodLink RX1 1 Lib.objectInit ∈ gtbl := List.mem_filter.mpr ⟨List.mem_of_getElem? (i := 198) (by decide +kernel), rfl⟩
theorem fl_X1_9 : Cond.fieldLink RX1 9 "FlueRounds$Fires" "flue" "[I" ∈ gtbl := List.mem_filter.mpr ⟨List.mem_of_getElem? (i := 199) (by decide +kernel), rfl⟩
theorem fl_X7_195 : Cond.fieldLink RX7 195 "FlueRounds$Fires" "flue" "[I" ∈ gtbl := List.mem_filter.mpr ⟨List.mem_of_getElem? (i := 200) (by decide +kernel), rfl⟩
theorem fl_X1_13 : Cond.fieldLink RX1 13 "FlueRounds$Fires" "day" "[I" ∈ gtbl := List.mem_filter.mpr ⟨List.mem_of_getElem? (i := 201) (by decide +kernel), rfl⟩
theorem fl_X7_198 : Cond.fieldLink RX7 198 "FlueRounds$Fires" "day" "[I" ∈ gtbl := List.mem_filter.mpr ⟨List.mem_of_getElem? (i := 202) (by decide +kernel), rfl⟩
theorem fl_X1_16 : Cond.fieldLink RX1 16 "FlueRounds$Fires" "size" "I" ∈ gtbl := List.mem_filter.mpr ⟨List.mem_of_getElem? (i := 203) (by decide +kernel), rfl⟩
theorem fl_X7_245 : Cond.fieldLink RX7 245 "FlueRounds$Fires" "size" "I" ∈ gtbl := List.mem_filter.mpr ⟨List.mem_of_getElem? (i := 204) (by decide +kernel), rfl⟩
theorem kl_X7_44 : Cond.classLink RX7 44 RX5 ∈ gtbl := List.mem_filter.mpr ⟨List.mem_of_getElem? (i := 212) (by decide +kernel), rfl⟩
theorem ia_X5 : Cond.instantiable RX5 5 ∈ gtbl := List.mem_filter.mpr ⟨List.mem_of_getElem? (i := 213) (by decide +kernel), rfl⟩
theorem mn_X7_46 : Cond.methodLinkNest RX7 46 yX5_init "FlueRounds" ∈ lw_tbl := List.mem_of_getElem? (i := 214) (by decide +kernel)
theorem im_yX5_init : Cond.instanceMethod yX5_init ∈ gtbl := List.mem_filter.mpr ⟨List.mem_of_getElem? (i := 215) (by decide +kernel), rfl⟩
theorem co_yX5_init : Cond.code yX5_init cX5_init 1 none ∈ gtbl := List.mem_filter.mpr ⟨List.mem_of_getElem? (i := 216) (by decide +kernel), rfl⟩
theorem ml_X5_3 : Cond.methodLink RX5 3 Lib.objectInit ∈ gtbl := List.mem_filter.mpr ⟨List.mem_of_getElem? (i := 217) (by decide +kernel), rfl⟩
theorem fl_X5_11 : Cond.fieldLink RX5 11 "FlueRounds$Sweeps" "flue" "[I" ∈ gtbl := List.mem_filter.mpr ⟨List.mem_of_getElem? (i := 218) (by decide +kernel), rfl⟩
theorem fl_X5_15 : Cond.fieldLink RX5 15 "FlueRounds$Sweeps" "day" "[I" ∈ gtbl := List.mem_filter.mpr ⟨List.mem_of_getElem? (i := 219) (by decide +kernel), rfl⟩
theorem fl_X7_265 : Cond.fieldLink RX7 265 "FlueRounds$Sweeps" "day" "[I" ∈ gtbl := List.mem_filter.mpr ⟨List.mem_of_getElem? (i := 220) (by decide +kernel), rfl⟩
theorem fl_X5_18 : Cond.fieldLink RX5 18 "FlueRounds$Sweeps" "hand" "[I" ∈ gtbl := List.mem_filter.mpr ⟨List.mem_of_getElem? (i := 221) (by decide +kernel), rfl⟩
theorem fl_X7_266 : Cond.fieldLink RX7 266 "FlueRounds$Sweeps" "hand" "[I" ∈ gtbl := List.mem_filter.mpr ⟨List.mem_of_getElem? (i := 222) (by decide +kernel), rfl⟩
theorem fl_X5_21 : Cond.fieldLink RX5 21 "FlueRounds$Sweeps" "fee" "[I" ∈ gtbl := List.mem_filter.mpr ⟨List.mem_of_getElem? (i := 223) (by decide +kernel), rfl⟩
theorem fl_X5_24 : Cond.fieldLink RX5 24 "FlueRounds$Sweeps" "size" "I" ∈ gtbl := List.mem_filter.mpr ⟨List.mem_of_getElem? (i := 224) (by decide +kernel), rfl⟩
theorem fl_X7_246 : Cond.fieldLink RX7 246 "FlueRounds$Sweeps" "size" "I" ∈ gtbl := List.mem_filter.mpr ⟨List.mem_of_getElem? (i := 225) (by decide +kernel), rfl⟩
theorem kl_X7_51 : Cond.classLink RX7 51 RX6 ∈ gtbl := List.mem_filter.mpr ⟨List.mem_of_getElem? (i := 237) (by decide +kernel), rfl⟩
theorem ia_X6 : Cond.instantiable RX6 8 ∈ gtbl := List.mem_filter.mpr ⟨List.mem_of_getElem? (i := 238) (by decide +kernel), rfl⟩
theorem mn_X7_53 : Cond.methodLinkNest RX7 53 yX6_init "FlueRounds" ∈ lw_tbl := List.mem_of_getElem? (i := 239) (by decide +kernel)
theorem im_yX6_init : Cond.instanceMethod yX6_init ∈ gtbl := List.mem_filter.mpr ⟨List.mem_of_getElem? (i := 240) (by decide +kernel), rfl⟩
theorem co_yX6_init : Cond.code yX6_init cX6_init 1 none ∈ gtbl := List.mem_filter.mpr ⟨List.mem_of_getElem? (i := 241) (by decide +kernel), rfl⟩
theorem ml_X6_3 : Cond.methodLink RX6 3 Lib.objectInit ∈ gtbl := List.mem_filter.mpr ⟨List.mem_of_getElem? (i := 242) (by decide +kernel), rfl⟩
theorem fl_X6_11 : Cond.fieldLink RX6 11 "FlueRounds$Tour" "flue" "[I" ∈ gtbl := List.mem_filter.mpr ⟨List.mem_of_getElem? (i := 243) (by decide +kernel), rfl⟩
theorem fl_X6_15 : Cond.fieldLink RX6 15 "FlueRounds$Tour" "x" "[I" ∈ gtbl := List.mem_filter.mpr ⟨List.mem_of_getElem? (i := 244) (by decide +kernel), rfl⟩
theorem fl_X6_18 : Cond.fieldLink RX6 18 "FlueRounds$Tour" "y" "[I" ∈ gtbl := List.mem_filter.mpr ⟨List.mem_of_getElem? (i := 245) (by decide +kernel), rfl⟩
theorem fl_X6_21 : Cond.fieldLink RX6 21 "FlueRounds$Tour" "passed" "[Z" ∈ gtbl := List.mem_filter.mpr ⟨List.mem_of_getElem? (i := 246) (by decide +kernel), rfl⟩
theorem fl_X6_25 : Cond.fieldLink RX6 25 "FlueRounds$Tour" "tried" "[I" ∈ gtbl := List.mem_filter.mpr ⟨List.mem_of_getElem? (i := 247) (by decide +kernel), rfl⟩
theorem fl_X6_28 : Cond.fieldLink RX6 28 "FlueRounds$Tour" "best" "[I" ∈ gtbl := List.mem_filter.mpr ⟨List.mem_of_getElem? (i := 248) (by decide +kernel), rfl⟩
theorem fl_X6_31 : Cond.fieldLink RX6 31 "FlueRounds$Tour" "size" "I" ∈ gtbl := List.mem_filter.mpr ⟨List.mem_of_getElem? (i := 249) (by decide +kernel), rfl⟩
theorem fl_X7_236 : Cond.fieldLink RX7 236 "FlueRounds$Tour" "size" "I" ∈ gtbl := List.mem_filter.mpr ⟨List.mem_of_getElem? (i := 250) (by decide +kernel), rfl⟩
theorem fl_X6_35 : Cond.fieldLink RX6 35 "FlueRounds$Tour" "way" "I" ∈ gtbl := List.mem_filter.mpr ⟨List.mem_of_getElem? (i := 251) (by decide +kernel), rfl⟩
theorem fl_X7_237 : Cond.fieldLink RX7 237 "FlueRounds$Tour" "way" "I" ∈ gtbl := List.mem_filter.mpr ⟨List.mem_of_getElem? (i := 252) (by decide +kernel), rfl⟩
theorem ac_boolean : Cond.arrayClass .boolean ∈ gtbl := List.mem_filter.mpr ⟨List.mem_of_getElem? (i := 270) (by decide +kernel), rfl⟩
theorem fl_X7_10 : Cond.fieldLink RX7 10 "FlueRounds" "draft" "LFlueRounds$Draft;" ∈ gtbl := List.mem_filter.mpr ⟨List.mem_of_getElem? (i := 271) (by decide +kernel), rfl⟩
theorem fl_X7_19 : Cond.fieldLink RX7 19 "FlueRounds" "book" "LFlueRounds$LawBook;" ∈ gtbl := List.mem_filter.mpr ⟨List.mem_of_getElem? (i := 272) (by decide +kernel), rfl⟩
theorem fl_X7_26 : Cond.fieldLink RX7 26 "FlueRounds" "flues" "LFlueRounds$Flues;" ∈ gtbl := List.mem_filter.mpr ⟨List.mem_of_getElem? (i := 273) (by decide +kernel), rfl⟩
theorem fl_X7_33 : Cond.fieldLink RX7 33 "FlueRounds" "looks" "LFlueRounds$Looks;" ∈ gtbl := List.mem_filter.mpr ⟨List.mem_of_getElem? (i := 274) (by decide +kernel), rfl⟩
theorem fl_X7_40 : Cond.fieldLink RX7 40 "FlueRounds" "fires" "LFlueRounds$Fires;" ∈ gtbl := List.mem_filter.mpr ⟨List.mem_of_getElem? (i := 275) (by decide +kernel), rfl⟩
theorem fl_X7_47 : Cond.fieldLink RX7 47 "FlueRounds" "sweeps" "LFlueRounds$Sweeps;" ∈ gtbl := List.mem_filter.mpr ⟨List.mem_of_getElem? (i := 276) (by decide +kernel), rfl⟩
theorem fl_X7_54 : Cond.fieldLink RX7 54 "FlueRounds" "tour" "LFlueRounds$Tour;" ∈ gtbl := List.mem_filter.mpr ⟨List.mem_of_getElem? (i := 277) (by decide +kernel), rfl⟩
theorem fl_X7_58 : Cond.fieldLink RX7 58 "FlueRounds" "handIsIll" "[Z" ∈ gtbl := List.mem_filter.mpr ⟨List.mem_of_getElem? (i := 278) (by decide +kernel), rfl⟩
theorem fl_X7_62 : Cond.fieldLink RX7 62 "FlueRounds" "today" "I" ∈ gtbl := List.mem_filter.mpr ⟨List.mem_of_getElem? (i := 279) (by decide +kernel), rfl⟩
theorem fl_X7_66 : Cond.fieldLink RX7 66 "FlueRounds" "feeRate" "I" ∈ gtbl := List.mem_filter.mpr ⟨List.mem_of_getElem? (i := 280) (by decide +kernel), rfl⟩
theorem fl_X7_69 : Cond.fieldLink RX7 69 "FlueRounds" "asked" "J" ∈ gtbl := List.mem_filter.mpr ⟨List.mem_of_getElem? (i := 281) (by decide +kernel), rfl⟩
theorem ml_L_15 : Cond.methodLink RL 15 yX7_type ∈ gtbl := List.mem_filter.mpr ⟨List.mem_of_getElem? (i := 305) (by decide +kernel), rfl⟩
theorem im_yX7_type : Cond.instanceMethod yX7_type ∈ gtbl := List.mem_filter.mpr ⟨List.mem_of_getElem? (i := 306) (by decide +kernel), rfl⟩
theorem se_yX7_type : Cond.selects RX7 yX7_type yX7_type ∈ gtbl := List.mem_filter.mpr ⟨List.mem_of_getElem? (i := 307) (by decide +kernel), rfl⟩
theorem co_yX7_type : Cond.code yX7_type cX7_type 4 (some .int) ∈ gtbl := List.mem_filter.mpr ⟨List.mem_of_getElem? (i := 308) (by decide +kernel), rfl⟩
theorem ml_X7_73 : Cond.methodLink RX7 73 yX7_within ∈ gtbl := List.mem_filter.mpr ⟨List.mem_of_getElem? (i := 309) (by decide +kernel), rfl⟩
theorem sm_yX7_within : Cond.static yX7_within ∈ gtbl := List.mem_filter.mpr ⟨List.mem_of_getElem? (i := 310) (by decide +kernel), rfl⟩
theorem co_yX7_within : Cond.code yX7_within cX7_within 3 (some .boolean) ∈ gtbl := List.mem_filter.mpr ⟨List.mem_of_getElem? (i := 311) (by decide +kernel), rfl⟩
theorem ml_X7_77 : Cond.methodLink RX7 77 yX0_hasRoomFor ∈ gtbl := List.mem_filter.mpr ⟨List.mem_of_getElem? (i := 312) (by decide +kernel), rfl⟩
theorem im_yX0_hasRoomFor : Cond.instanceMethod yX0_hasRoomFor ∈ gtbl := List.mem_filter.mpr ⟨List.mem_of_getElem? (i := 313) (by decide +kernel), rfl⟩
theorem se_yX0_hasRoomFor : Cond.selects RX0 yX0_hasRoomFor yX0_hasRoomFor ∈ gtbl := List.mem_filter.mpr ⟨List.mem_of_getElem? (i := 314) (by decide +kernel), rfl⟩
theorem co_yX0_hasRoomFor : Cond.code yX0_hasRoomFor cX0_hasRoomFor 2 (some .boolean) ∈ gtbl := List.mem_filter.mpr ⟨List.mem_of_getElem? (i := 315) (by decide +kernel), rfl⟩
theorem ml_X7_81 : Cond.methodLink RX7 81 yX0_append ∈ gtbl := List.mem_filter.mpr ⟨List.mem_of_getElem? (i := 316) (by decide +kernel), rfl⟩
theorem im_yX0_append : Cond.instanceMethod yX0_append ∈ gtbl := List.mem_filter.mpr ⟨List.mem_of_getElem? (i := 317) (by decide +kernel), rfl⟩
theorem se_yX0_append : Cond.selects RX0 yX0_append yX0_append ∈ gtbl := List.mem_filter.mpr ⟨List.mem_of_getElem? (i := 318) (by decide +kernel), rfl⟩
theorem co_yX0_append : Cond.code yX0_append cX0_append 5 none ∈ gtbl := List.mem_filter.mpr ⟨List.mem_of_getElem? (i := 319) (by decide +kernel), rfl⟩
theorem ml_L_20 : Cond.methodLink RL 20 yX7_clear ∈ gtbl := List.mem_filter.mpr ⟨List.mem_of_getElem? (i := 320) (by decide +kernel), rfl⟩
theorem im_yX7_clear : Cond.instanceMethod yX7_clear ∈ gtbl := List.mem_filter.mpr ⟨List.mem_of_getElem? (i := 321) (by decide +kernel), rfl⟩
theorem se_yX7_clear : Cond.selects RX7 yX7_clear yX7_clear ∈ gtbl := List.mem_filter.mpr ⟨List.mem_of_getElem? (i := 322) (by decide +kernel), rfl⟩
theorem co_yX7_clear : Cond.code yX7_clear cX7_clear 1 (some .int) ∈ gtbl := List.mem_filter.mpr ⟨List.mem_of_getElem? (i := 323) (by decide +kernel), rfl⟩
theorem ml_X7_88 : Cond.methodLink RX7 88 yX0_empty ∈ gtbl := List.mem_filter.mpr ⟨List.mem_of_getElem? (i := 324) (by decide +kernel), rfl⟩
theorem im_yX0_empty : Cond.instanceMethod yX0_empty ∈ gtbl := List.mem_filter.mpr ⟨List.mem_of_getElem? (i := 325) (by decide +kernel), rfl⟩
theorem se_yX0_empty : Cond.selects RX0 yX0_empty yX0_empty ∈ gtbl := List.mem_filter.mpr ⟨List.mem_of_getElem? (i := 326) (by decide +kernel), rfl⟩
theorem co_yX0_empty : Cond.code yX0_empty cX0_empty 2 (some .int) ∈ gtbl := List.mem_filter.mpr ⟨List.mem_of_getElem? (i := 327) (by decide +kernel), rfl⟩
theorem ml_L_25 : Cond.methodLink RL 25 yX7_law ∈ gtbl := List.mem_filter.mpr ⟨List.mem_of_getElem? (i := 328) (by decide +kernel), rfl⟩
theorem im_yX7_law : Cond.instanceMethod yX7_law ∈ gtbl := List.mem_filter.mpr ⟨List.mem_of_getElem? (i := 329) (by decide +kernel), rfl⟩
theorem se_yX7_law : Cond.selects RX7 yX7_law yX7_law ∈ gtbl := List.mem_filter.mpr ⟨List.mem_of_getElem? (i := 330) (by decide +kernel), rfl⟩
theorem co_yX7_law : Cond.code yX7_law cX7_law 3 (some .int) ∈ gtbl := List.mem_filter.mpr ⟨List.mem_of_getElem? (i := 331) (by decide +kernel), rfl⟩
theorem ml_X7_92 : Cond.methodLink RX7 92 yX0_readItems ∈ gtbl := List.mem_filter.mpr ⟨List.mem_of_getElem? (i := 332) (by decide +kernel), rfl⟩
theorem im_yX0_readItems : Cond.instanceMethod yX0_readItems ∈ gtbl := List.mem_filter.mpr ⟨List.mem_of_getElem? (i := 333) (by decide +kernel), rfl⟩
theorem se_yX0_readItems : Cond.selects RX0 yX0_readItems yX0_readItems ∈ gtbl := List.mem_filter.mpr ⟨List.mem_of_getElem? (i := 334) (by decide +kernel), rfl⟩
theorem co_yX0_readItems : Cond.code yX0_readItems cX0_readItems 2 (some .int) ∈ gtbl := List.mem_filter.mpr ⟨List.mem_of_getElem? (i := 335) (by decide +kernel), rfl⟩
theorem ml_X0_40 : Cond.methodLink RX0 40 yX0_readStep ∈ gtbl := List.mem_filter.mpr ⟨List.mem_of_getElem? (i := 336) (by decide +kernel), rfl⟩
theorem im_yX0_readStep : Cond.instanceMethod yX0_readStep ∈ gtbl := List.mem_filter.mpr ⟨List.mem_of_getElem? (i := 338) (by decide +kernel), rfl⟩
theorem co_yX0_readStep : Cond.code yX0_readStep cX0_readStep 2 (some .boolean) ∈ gtbl := List.mem_filter.mpr ⟨List.mem_of_getElem? (i := 339) (by decide +kernel), rfl⟩
theorem ml_X0_44 : Cond.methodLink RX0 44 yX0_readFrom ∈ gtbl := List.mem_filter.mpr ⟨List.mem_of_getElem? (i := 340) (by decide +kernel), rfl⟩
theorem im_yX0_readFrom : Cond.instanceMethod yX0_readFrom ∈ gtbl := List.mem_filter.mpr ⟨List.mem_of_getElem? (i := 342) (by decide +kernel), rfl⟩
theorem co_yX0_readFrom : Cond.code yX0_readFrom cX0_readFrom 1 (some .boolean) ∈ gtbl := List.mem_filter.mpr ⟨List.mem_of_getElem? (i := 343) (by decide +kernel), rfl⟩
theorem ml_X0_51 : Cond.methodLink RX0 51 yX0_readNumber ∈ gtbl := List.mem_filter.mpr ⟨List.mem_of_getElem? (i := 344) (by decide +kernel), rfl⟩
theorem im_yX0_readNumber : Cond.instanceMethod yX0_readNumber ∈ gtbl := List.mem_filter.mpr ⟨List.mem_of_getElem? (i := 346) (by decide +kernel), rfl⟩
theorem co_yX0_readNumber : Cond.code yX0_readNumber cX0_readNumber 4 (some .boolean) ∈ gtbl := List.mem_filter.mpr ⟨List.mem_of_getElem? (i := 347) (by decide +kernel), rfl⟩
theorem ml_X0_55 : Cond.methodLink RX0 55 yX0_digitAtPlace ∈ gtbl := List.mem_filter.mpr ⟨List.mem_of_getElem? (i := 348) (by decide +kernel), rfl⟩
theorem im_yX0_digitAtPlace : Cond.instanceMethod yX0_digitAtPlace ∈ gtbl := List.mem_filter.mpr ⟨List.mem_of_getElem? (i := 350) (by decide +kernel), rfl⟩
theorem co_yX0_digitAtPlace : Cond.code yX0_digitAtPlace cX0_digitAtPlace 2 (some .int) ∈ gtbl := List.mem_filter.mpr ⟨List.mem_of_getElem? (i := 351) (by decide +kernel), rfl⟩
theorem ml_X0_48 : Cond.methodLink RX0 48 yX0_readSpan ∈ gtbl := List.mem_filter.mpr ⟨List.mem_of_getElem? (i := 352) (by decide +kernel), rfl⟩
theorem im_yX0_readSpan : Cond.instanceMethod yX0_readSpan ∈ gtbl := List.mem_filter.mpr ⟨List.mem_of_getElem? (i := 354) (by decide +kernel), rfl⟩
theorem co_yX0_readSpan : Cond.code yX0_readSpan cX0_readSpan 2 (some .boolean) ∈ gtbl := List.mem_filter.mpr ⟨List.mem_of_getElem? (i := 355) (by decide +kernel), rfl⟩
theorem ml_X7_95 : Cond.methodLink RX7 95 yX3_isFull ∈ gtbl := List.mem_filter.mpr ⟨List.mem_of_getElem? (i := 356) (by decide +kernel), rfl⟩
theorem im_yX3_isFull : Cond.instanceMethod yX3_isFull ∈ gtbl := List.mem_filter.mpr ⟨List.mem_of_getElem? (i := 357) (by decide +kernel), rfl⟩
theorem se_yX3_isFull : Cond.selects RX3 yX3_isFull yX3_isFull ∈ gtbl := List.mem_filter.mpr ⟨List.mem_of_getElem? (i := 358) (by decide +kernel), rfl⟩
theorem co_yX3_isFull : Cond.code yX3_isFull cX3_isFull 1 (some .boolean) ∈ gtbl := List.mem_filter.mpr ⟨List.mem_of_getElem? (i := 359) (by decide +kernel), rfl⟩
theorem ml_X7_99 : Cond.methodLink RX7 99 yX3_add ∈ gtbl := List.mem_filter.mpr ⟨List.mem_of_getElem? (i := 360) (by decide +kernel), rfl⟩
theorem im_yX3_add : Cond.instanceMethod yX3_add ∈ gtbl := List.mem_filter.mpr ⟨List.mem_of_getElem? (i := 361) (by decide +kernel), rfl⟩
theorem se_yX3_add : Cond.selects RX3 yX3_add yX3_add ∈ gtbl := List.mem_filter.mpr ⟨List.mem_of_getElem? (i := 362) (by decide +kernel), rfl⟩
theorem co_yX3_add : Cond.code yX3_add cX3_add 5 (some .int) ∈ gtbl := List.mem_filter.mpr ⟨List.mem_of_getElem? (i := 363) (by decide +kernel), rfl⟩
theorem ml_L_29 : Cond.methodLink RL 29 yX7_span ∈ gtbl := List.mem_filter.mpr ⟨List.mem_of_getElem? (i := 364) (by decide +kernel), rfl⟩
theorem im_yX7_span : Cond.instanceMethod yX7_span ∈ gtbl := List.mem_filter.mpr ⟨List.mem_of_getElem? (i := 365) (by decide +kernel), rfl⟩
theorem se_yX7_span : Cond.selects RX7 yX7_span yX7_span ∈ gtbl := List.mem_filter.mpr ⟨List.mem_of_getElem? (i := 366) (by decide +kernel), rfl⟩
theorem co_yX7_span : Cond.code yX7_span cX7_span 3 (some .int) ∈ gtbl := List.mem_filter.mpr ⟨List.mem_of_getElem? (i := 367) (by decide +kernel), rfl⟩
theorem ml_X7_103 : Cond.methodLink RX7 103 yX3_spanOn ∈ gtbl := List.mem_filter.mpr ⟨List.mem_of_getElem? (i := 368) (by decide +kernel), rfl⟩
theorem im_yX3_spanOn : Cond.instanceMethod yX3_spanOn ∈ gtbl := List.mem_filter.mpr ⟨List.mem_of_getElem? (i := 369) (by decide +kernel), rfl⟩
theorem se_yX3_spanOn : Cond.selects RX3 yX3_spanOn yX3_spanOn ∈ gtbl := List.mem_filter.mpr ⟨List.mem_of_getElem? (i := 370) (by decide +kernel), rfl⟩
theorem co_yX3_spanOn : Cond.code yX3_spanOn cX3_spanOn 5 (some .int) ∈ gtbl := List.mem_filter.mpr ⟨List.mem_of_getElem? (i := 371) (by decide +kernel), rfl⟩
theorem ml_X3_39 : Cond.methodLink RX3 39 yX3_inForce ∈ gtbl := List.mem_filter.mpr ⟨List.mem_of_getElem? (i := 372) (by decide +kernel), rfl⟩
theorem im_yX3_inForce : Cond.instanceMethod yX3_inForce ∈ gtbl := List.mem_filter.mpr ⟨List.mem_of_getElem? (i := 374) (by decide +kernel), rfl⟩
theorem co_yX3_inForce : Cond.code yX3_inForce cX3_inForce 3 (some .int) ∈ gtbl := List.mem_filter.mpr ⟨List.mem_of_getElem? (i := 375) (by decide +kernel), rfl⟩
theorem ml_L_34 : Cond.methodLink RL 34 yX7_days ∈ gtbl := List.mem_filter.mpr ⟨List.mem_of_getElem? (i := 376) (by decide +kernel), rfl⟩
theorem im_yX7_days : Cond.instanceMethod yX7_days ∈ gtbl := List.mem_filter.mpr ⟨List.mem_of_getElem? (i := 377) (by decide +kernel), rfl⟩
theorem se_yX7_days : Cond.selects RX7 yX7_days yX7_days ∈ gtbl := List.mem_filter.mpr ⟨List.mem_of_getElem? (i := 378) (by decide +kernel), rfl⟩
theorem co_yX7_days : Cond.code yX7_days cX7_days 2 (some .int) ∈ gtbl := List.mem_filter.mpr ⟨List.mem_of_getElem? (i := 379) (by decide +kernel), rfl⟩
theorem ml_L_39 : Cond.methodLink RL 39 yX7_flue ∈ gtbl := List.mem_filter.mpr ⟨List.mem_of_getElem? (i := 380) (by decide +kernel), rfl⟩
theorem im_yX7_flue : Cond.instanceMethod yX7_flue ∈ gtbl := List.mem_filter.mpr ⟨List.mem_of_getElem? (i := 381) (by decide +kernel), rfl⟩
theorem se_yX7_flue : Cond.selects RX7 yX7_flue yX7_flue ∈ gtbl := List.mem_filter.mpr ⟨List.mem_of_getElem? (i := 382) (by decide +kernel), rfl⟩
theorem co_yX7_flue : Cond.code yX7_flue cX7_flue 9 (some .int) ∈ gtbl := List.mem_filter.mpr ⟨List.mem_of_getElem? (i := 383) (by decide +kernel), rfl⟩
theorem ml_X7_107 : Cond.methodLink RX7 107 yX7_isBody ∈ gtbl := List.mem_filter.mpr ⟨List.mem_of_getElem? (i := 384) (by decide +kernel), rfl⟩
theorem sm_yX7_isBody : Cond.static yX7_isBody ∈ gtbl := List.mem_filter.mpr ⟨List.mem_of_getElem? (i := 385) (by decide +kernel), rfl⟩
theorem co_yX7_isBody : Cond.code yX7_isBody cX7_isBody 5 (some .boolean) ∈ gtbl := List.mem_filter.mpr ⟨List.mem_of_getElem? (i := 386) (by decide +kernel), rfl⟩
theorem ml_X7_111 : Cond.methodLink RX7 111 yX7_isPlace ∈ gtbl := List.mem_filter.mpr ⟨List.mem_of_getElem? (i := 387) (by decide +kernel), rfl⟩
theorem sm_yX7_isPlace : Cond.static yX7_isPlace ∈ gtbl := List.mem_filter.mpr ⟨List.mem_of_getElem? (i := 388) (by decide +kernel), rfl⟩
theorem co_yX7_isPlace : Cond.code yX7_isPlace cX7_isPlace 2 (some .boolean) ∈ gtbl := List.mem_filter.mpr ⟨List.mem_of_getElem? (i := 389) (by decide +kernel), rfl⟩
theorem ml_X7_115 : Cond.methodLink RX7 115 yX7_isHand ∈ gtbl := List.mem_filter.mpr ⟨List.mem_of_getElem? (i := 390) (by decide +kernel), rfl⟩
theorem sm_yX7_isHand : Cond.static yX7_isHand ∈ gtbl := List.mem_filter.mpr ⟨List.mem_of_getElem? (i := 391) (by decide +kernel), rfl⟩
theorem co_yX7_isHand : Cond.code yX7_isHand cX7_isHand 1 (some .boolean) ∈ gtbl := List.mem_filter.mpr ⟨List.mem_of_getElem? (i := 392) (by decide +kernel), rfl⟩
theorem ml_X7_118 : Cond.methodLink RX7 118 yX2_isFull ∈ gtbl := List.mem_filter.mpr ⟨List.mem_of_getElem? (i := 393) (by decide +kernel), rfl⟩
theorem im_yX2_isFull : Cond.instanceMethod yX2_isFull ∈ gtbl := List.mem_filter.mpr ⟨List.mem_of_getElem? (i := 394) (by decide +kernel), rfl⟩
theorem se_yX2_isFull : Cond.selects RX2 yX2_isFull yX2_isFull ∈ gtbl := List.mem_filter.mpr ⟨List.mem_of_getElem? (i := 395) (by decide +kernel), rfl⟩
theorem co_yX2_isFull : Cond.code yX2_isFull cX2_isFull 1 (some .boolean) ∈ gtbl := List.mem_filter.mpr ⟨List.mem_of_getElem? (i := 396) (by decide +kernel), rfl⟩
theorem ml_X7_119 : Cond.methodLink RX7 119 yX2_setBody ∈ gtbl := List.mem_filter.mpr ⟨List.mem_of_getElem? (i := 397) (by decide +kernel), rfl⟩
theorem im_yX2_setBody : Cond.instanceMethod yX2_setBody ∈ gtbl := List.mem_filter.mpr ⟨List.mem_of_getElem? (i := 398) (by decide +kernel), rfl⟩
theorem se_yX2_setBody : Cond.selects RX2 yX2_setBody yX2_setBody ∈ gtbl := List.mem_filter.mpr ⟨List.mem_of_getElem? (i := 399) (by decide +kernel), rfl⟩
theorem co_yX2_setBody : Cond.code yX2_setBody cX2_setBody 6 none ∈ gtbl := List.mem_filter.mpr ⟨List.mem_of_getElem? (i := 400) (by decide +kernel), rfl⟩
theorem ml_X7_123 : Cond.methodLink RX7 123 yX2_setPlace ∈ gtbl := List.mem_filter.mpr ⟨List.mem_of_getElem? (i := 401) (by decide +kernel), rfl⟩
theorem im_yX2_setPlace : Cond.instanceMethod yX2_setPlace ∈ gtbl := List.mem_filter.mpr ⟨List.mem_of_getElem? (i := 402) (by decide +kernel), rfl⟩
theorem se_yX2_setPlace : Cond.selects RX2 yX2_setPlace yX2_setPlace ∈ gtbl := List.mem_filter.mpr ⟨List.mem_of_getElem? (i := 403) (by decide +kernel), rfl⟩
theorem co_yX2_setPlace : Cond.code yX2_setPlace cX2_setPlace 5 none ∈ gtbl := List.mem_filter.mpr ⟨List.mem_of_getElem? (i := 404) (by decide +kernel), rfl⟩
theorem ml_X7_127 : Cond.methodLink RX7 127 yX2_add ∈ gtbl := List.mem_filter.mpr ⟨List.mem_of_getElem? (i := 405) (by decide +kernel), rfl⟩
theorem im_yX2_add : Cond.instanceMethod yX2_add ∈ gtbl := List.mem_filter.mpr ⟨List.mem_of_getElem? (i := 406) (by decide +kernel), rfl⟩
theorem se_yX2_add : Cond.selects RX2 yX2_add yX2_add ∈ gtbl := List.mem_filter.mpr ⟨List.mem_of_getElem? (i := 407) (by decide +kernel), rfl⟩
theorem co_yX2_add : Cond.code yX2_add cX2_add 1 (some .int) ∈ gtbl := List.mem_filter.mpr ⟨List.mem_of_getElem? (i := 408) (by decide +kernel), rfl⟩
theorem ml_L_44 : Cond.methodLink RL 44 yX7_draught ∈ gtbl := List.mem_filter.mpr ⟨List.mem_of_getElem? (i := 409) (by decide +kernel), rfl⟩
theorem im_yX7_draught : Cond.instanceMethod yX7_draught ∈ gtbl := List.mem_filter.mpr ⟨List.mem_of_getElem? (i := 410) (by decide +kernel), rfl⟩
theorem se_yX7_draught : Cond.selects RX7 yX7_draught yX7_draught ∈ gtbl := List.mem_filter.mpr ⟨List.mem_of_getElem? (i := 411) (by decide +kernel), rfl⟩
theorem co_yX7_draught : Cond.code yX7_draught cX7_draught 2 (some .int) ∈ gtbl := List.mem_filter.mpr ⟨List.mem_of_getElem? (i := 412) (by decide +kernel), rfl⟩
theorem ml_X7_129 : Cond.methodLink RX7 129 yX2_has ∈ gtbl := List.mem_filter.mpr ⟨List.mem_of_getElem? (i := 413) (by decide +kernel), rfl⟩
theorem im_yX2_has : Cond.instanceMethod yX2_has ∈ gtbl := List.mem_filter.mpr ⟨List.mem_of_getElem? (i := 414) (by decide +kernel), rfl⟩
theorem se_yX2_has : Cond.selects RX2 yX2_has yX2_has ∈ gtbl := List.mem_filter.mpr ⟨List.mem_of_getElem? (i := 415) (by decide +kernel), rfl⟩
theorem co_yX2_has : Cond.code yX2_has cX2_has 2 (some .boolean) ∈ gtbl := List.mem_filter.mpr ⟨List.mem_of_getElem? (i := 416) (by decide +kernel), rfl⟩
theorem ml_X7_136 : Cond.methodLink RX7 136 yX7_straightPull ∈ gtbl := List.mem_filter.mpr ⟨List.mem_of_getElem? (i := 417) (by decide +kernel), rfl⟩
theorem im_yX7_straightPull : Cond.instanceMethod yX7_straightPull ∈ gtbl := List.mem_filter.mpr ⟨List.mem_of_getElem? (i := 419) (by decide +kernel), rfl⟩
theorem co_yX7_straightPull : Cond.code yX7_straightPull cX7_straightPull 2 (some .int) ∈ gtbl := List.mem_filter.mpr ⟨List.mem_of_getElem? (i := 420) (by decide +kernel), rfl⟩
theorem ml_X7_247 : Cond.methodLink RX7 247 yX2_openPull ∈ gtbl := List.mem_filter.mpr ⟨List.mem_of_getElem? (i := 421) (by decide +kernel), rfl⟩
theorem im_yX2_openPull : Cond.instanceMethod yX2_openPull ∈ gtbl := List.mem_filter.mpr ⟨List.mem_of_getElem? (i := 422) (by decide +kernel), rfl⟩
theorem se_yX2_openPull : Cond.selects RX2 yX2_openPull yX2_openPull ∈ gtbl := List.mem_filter.mpr ⟨List.mem_of_getElem? (i := 423) (by decide +kernel), rfl⟩
theorem co_yX2_openPull : Cond.code yX2_openPull cX2_openPull 3 (some .int) ∈ gtbl := List.mem_filter.mpr ⟨List.mem_of_getElem? (i := 424) (by decide +kernel), rfl⟩
theorem fl_X2_49 : Cond.fieldLink RX2 49 "FlueRounds$Flues" "PULL_OF_FUEL" "[I" ∈ gtbl := List.mem_filter.mpr ⟨List.mem_of_getElem? (i := 425) (by decide +kernel), rfl⟩
theorem ls_pull : Cond.laysStatic "FlueRounds$Flues" "PULL_OF_FUEL" "[I" ∈ lw_tbl := List.mem_of_getElem? (i := 426) (by decide +kernel)
theorem ml_X7_140 : Cond.methodLink RX7 140 yX7_bentPull ∈ gtbl := List.mem_filter.mpr ⟨List.mem_of_getElem? (i := 427) (by decide +kernel), rfl⟩
theorem im_yX7_bentPull : Cond.instanceMethod yX7_bentPull ∈ gtbl := List.mem_filter.mpr ⟨List.mem_of_getElem? (i := 429) (by decide +kernel), rfl⟩
theorem co_yX7_bentPull : Cond.code yX7_bentPull cX7_bentPull 2 (some .int) ∈ gtbl := List.mem_filter.mpr ⟨List.mem_of_getElem? (i := 430) (by decide +kernel), rfl⟩
theorem kc_X7_250 : Cond.constantLong RX7 250 (10) ∈ gtbl := List.mem_filter.mpr ⟨List.mem_of_getElem? (i := 431) (by decide +kernel), rfl⟩
theorem ml_X7_255 : Cond.methodLink RX7 255 yJ9_max_7cf53 ∈ gtbl := List.mem_filter.mpr ⟨List.mem_of_getElem? (i := 432) (by decide +kernel), rfl⟩
theorem sm_yJ9_max_7cf53 : Cond.static yJ9_max_7cf53 ∈ gtbl := List.mem_filter.mpr ⟨List.mem_of_getElem? (i := 433) (by decide +kernel), rfl⟩
theorem co_yJ9_max_7cf53 : Cond.code yJ9_max_7cf53 cJ9_max_7cf53 2 (some .int) ∈ gtbl := List.mem_filter.mpr ⟨List.mem_of_getElem? (i := 434) (by decide +kernel), rfl⟩
theorem ml_X7_143 : Cond.methodLink RX7 143 yX7_sharedPull ∈ gtbl := List.mem_filter.mpr ⟨List.mem_of_getElem? (i := 435) (by decide +kernel), rfl⟩
theorem im_yX7_sharedPull : Cond.instanceMethod yX7_sharedPull ∈ gtbl := List.mem_filter.mpr ⟨List.mem_of_getElem? (i := 437) (by decide +kernel), rfl⟩
theorem co_yX7_sharedPull : Cond.code yX7_sharedPull cX7_sharedPull 2 (some .int) ∈ gtbl := List.mem_filter.mpr ⟨List.mem_of_getElem? (i := 438) (by decide +kernel), rfl⟩
theorem kc_X7_260 : Cond.constantLong RX7 260 (100) ∈ gtbl := List.mem_filter.mpr ⟨List.mem_of_getElem? (i := 439) (by decide +kernel), rfl⟩
theorem ml_L_48 : Cond.methodLink RL 48 yX7_about ∈ gtbl := List.mem_filter.mpr ⟨List.mem_of_getElem? (i := 440) (by decide +kernel), rfl⟩
theorem im_yX7_about : Cond.instanceMethod yX7_about ∈ gtbl := List.mem_filter.mpr ⟨List.mem_of_getElem? (i := 441) (by decide +kernel), rfl⟩
theorem se_yX7_about : Cond.selects RX7 yX7_about yX7_about ∈ gtbl := List.mem_filter.mpr ⟨List.mem_of_getElem? (i := 442) (by decide +kernel), rfl⟩
theorem co_yX7_about : Cond.code yX7_about cX7_about 3 (some .int) ∈ gtbl := List.mem_filter.mpr ⟨List.mem_of_getElem? (i := 443) (by decide +kernel), rfl⟩
theorem ml_X7_155 : Cond.methodLink RX7 155 yX7_sweptBy ∈ gtbl := List.mem_filter.mpr ⟨List.mem_of_getElem? (i := 444) (by decide +kernel), rfl⟩
theorem im_yX7_sweptBy : Cond.instanceMethod yX7_sweptBy ∈ gtbl := List.mem_filter.mpr ⟨List.mem_of_getElem? (i := 446) (by decide +kernel), rfl⟩
theorem co_yX7_sweptBy : Cond.code yX7_sweptBy cX7_sweptBy 4 (some .int) ∈ gtbl := List.mem_filter.mpr ⟨List.mem_of_getElem? (i := 447) (by decide +kernel), rfl⟩
theorem ml_X7_262 : Cond.methodLink RX7 262 yX5_latest ∈ gtbl := List.mem_filter.mpr ⟨List.mem_of_getElem? (i := 448) (by decide +kernel), rfl⟩
theorem im_yX5_latest : Cond.instanceMethod yX5_latest ∈ gtbl := List.mem_filter.mpr ⟨List.mem_of_getElem? (i := 449) (by decide +kernel), rfl⟩
theorem se_yX5_latest : Cond.selects RX5 yX5_latest yX5_latest ∈ gtbl := List.mem_filter.mpr ⟨List.mem_of_getElem? (i := 450) (by decide +kernel), rfl⟩
theorem co_yX5_latest : Cond.code yX5_latest cX5_latest 4 (some .int) ∈ gtbl := List.mem_filter.mpr ⟨List.mem_of_getElem? (i := 451) (by decide +kernel), rfl⟩
theorem ml_X7_161 : Cond.methodLink RX7 161 yX7_isForbidden ∈ gtbl := List.mem_filter.mpr ⟨List.mem_of_getElem? (i := 452) (by decide +kernel), rfl⟩
theorem im_yX7_isForbidden : Cond.instanceMethod yX7_isForbidden ∈ gtbl := List.mem_filter.mpr ⟨List.mem_of_getElem? (i := 454) (by decide +kernel), rfl⟩
theorem co_yX7_isForbidden : Cond.code yX7_isForbidden cX7_isForbidden 2 (some .boolean) ∈ gtbl := List.mem_filter.mpr ⟨List.mem_of_getElem? (i := 455) (by decide +kernel), rfl⟩
theorem ml_X7_188 : Cond.methodLink RX7 188 yX4_asKnown ∈ gtbl := List.mem_filter.mpr ⟨List.mem_of_getElem? (i := 456) (by decide +kernel), rfl⟩
theorem im_yX4_asKnown : Cond.instanceMethod yX4_asKnown ∈ gtbl := List.mem_filter.mpr ⟨List.mem_of_getElem? (i := 457) (by decide +kernel), rfl⟩
theorem se_yX4_asKnown : Cond.selects RX4 yX4_asKnown yX4_asKnown ∈ gtbl := List.mem_filter.mpr ⟨List.mem_of_getElem? (i := 458) (by decide +kernel), rfl⟩
theorem co_yX4_asKnown : Cond.code yX4_asKnown cX4_asKnown 7 (some .int) ∈ gtbl := List.mem_filter.mpr ⟨List.mem_of_getElem? (i := 459) (by decide +kernel), rfl⟩
theorem ml_X7_164 : Cond.methodLink RX7 164 yX7_asNumber ∈ gtbl := List.mem_filter.mpr ⟨List.mem_of_getElem? (i := 460) (by decide +kernel), rfl⟩
theorem sm_yX7_asNumber : Cond.static yX7_asNumber ∈ gtbl := List.mem_filter.mpr ⟨List.mem_of_getElem? (i := 461) (by decide +kernel), rfl⟩
theorem co_yX7_asNumber : Cond.code yX7_asNumber cX7_asNumber 1 (some .int) ∈ gtbl := List.mem_filter.mpr ⟨List.mem_of_getElem? (i := 462) (by decide +kernel), rfl⟩
theorem ml_X7_168 : Cond.methodLink RX7 168 yX7_doerOf ∈ gtbl := List.mem_filter.mpr ⟨List.mem_of_getElem? (i := 463) (by decide +kernel), rfl⟩
theorem im_yX7_doerOf : Cond.instanceMethod yX7_doerOf ∈ gtbl := List.mem_filter.mpr ⟨List.mem_of_getElem? (i := 465) (by decide +kernel), rfl⟩
theorem co_yX7_doerOf : Cond.code yX7_doerOf cX7_doerOf 4 (some .int) ∈ gtbl := List.mem_filter.mpr ⟨List.mem_of_getElem? (i := 466) (by decide +kernel), rfl⟩
theorem ml_X7_270 : Cond.methodLink RX7 270 yX7_nearestHand ∈ gtbl := List.mem_filter.mpr ⟨List.mem_of_getElem? (i := 467) (by decide +kernel), rfl⟩
theorem im_yX7_nearestHand : Cond.instanceMethod yX7_nearestHand ∈ gtbl := List.mem_filter.mpr ⟨List.mem_of_getElem? (i := 469) (by decide +kernel), rfl⟩
theorem co_yX7_nearestHand : Cond.code yX7_nearestHand cX7_nearestHand 7 (some .int) ∈ gtbl := List.mem_filter.mpr ⟨List.mem_of_getElem? (i := 470) (by decide +kernel), rfl⟩
theorem kc_X7_276 : Cond.constant RX7 276 (1000000) ∈ gtbl := List.mem_filter.mpr ⟨List.mem_of_getElem? (i := 471) (by decide +kernel), rfl⟩
theorem ml_X7_277 : Cond.methodLink RX7 277 yX2_wayBetween ∈ gtbl := List.mem_filter.mpr ⟨List.mem_of_getElem? (i := 472) (by decide +kernel), rfl⟩
theorem im_yX2_wayBetween : Cond.instanceMethod yX2_wayBetween ∈ gtbl := List.mem_filter.mpr ⟨List.mem_of_getElem? (i := 473) (by decide +kernel), rfl⟩
theorem se_yX2_wayBetween : Cond.selects RX2 yX2_wayBetween yX2_wayBetween ∈ gtbl := List.mem_filter.mpr ⟨List.mem_of_getElem? (i := 474) (by decide +kernel), rfl⟩
theorem co_yX2_wayBetween : Cond.code yX2_wayBetween cX2_wayBetween 3 (some .int) ∈ gtbl := List.mem_filter.mpr ⟨List.mem_of_getElem? (i := 475) (by decide +kernel), rfl⟩
theorem ml_X2_52 : Cond.methodLink RX2 52 yJ9_abs_0f7a4 ∈ gtbl := List.mem_filter.mpr ⟨List.mem_of_getElem? (i := 476) (by decide +kernel), rfl⟩
theorem sm_yJ9_abs_0f7a4 : Cond.static yJ9_abs_0f7a4 ∈ gtbl := List.mem_filter.mpr ⟨List.mem_of_getElem? (i := 477) (by decide +kernel), rfl⟩
theorem co_yJ9_abs_0f7a4 : Cond.code yJ9_abs_0f7a4 cJ9_abs_0f7a4 1 (some .int) ∈ gtbl := List.mem_filter.mpr ⟨List.mem_of_getElem? (i := 478) (by decide +kernel), rfl⟩
theorem ml_X7_273 : Cond.methodLink RX7 273 yX7_leastHandNotIll ∈ gtbl := List.mem_filter.mpr ⟨List.mem_of_getElem? (i := 479) (by decide +kernel), rfl⟩
theorem im_yX7_leastHandNotIll : Cond.instanceMethod yX7_leastHandNotIll ∈ gtbl := List.mem_filter.mpr ⟨List.mem_of_getElem? (i := 481) (by decide +kernel), rfl⟩
theorem co_yX7_leastHandNotIll : Cond.code yX7_leastHandNotIll cX7_leastHandNotIll 2 (some .int) ∈ gtbl := List.mem_filter.mpr ⟨List.mem_of_getElem? (i := 482) (by decide +kernel), rfl⟩
theorem ml_L_52 : Cond.methodLink RL 52 yX7_due ∈ gtbl := List.mem_filter.mpr ⟨List.mem_of_getElem? (i := 483) (by decide +kernel), rfl⟩
theorem im_yX7_due : Cond.instanceMethod yX7_due ∈ gtbl := List.mem_filter.mpr ⟨List.mem_of_getElem? (i := 484) (by decide +kernel), rfl⟩
theorem se_yX7_due : Cond.selects RX7 yX7_due yX7_due ∈ gtbl := List.mem_filter.mpr ⟨List.mem_of_getElem? (i := 485) (by decide +kernel), rfl⟩
theorem co_yX7_due : Cond.code yX7_due cX7_due 2 (some .int) ∈ gtbl := List.mem_filter.mpr ⟨List.mem_of_getElem? (i := 486) (by decide +kernel), rfl⟩
theorem ml_X7_171 : Cond.methodLink RX7 171 yX7_dueOf ∈ gtbl := List.mem_filter.mpr ⟨List.mem_of_getElem? (i := 487) (by decide +kernel), rfl⟩
theorem im_yX7_dueOf : Cond.instanceMethod yX7_dueOf ∈ gtbl := List.mem_filter.mpr ⟨List.mem_of_getElem? (i := 489) (by decide +kernel), rfl⟩
theorem co_yX7_dueOf : Cond.code yX7_dueOf cX7_dueOf 2 (some .int) ∈ gtbl := List.mem_filter.mpr ⟨List.mem_of_getElem? (i := 490) (by decide +kernel), rfl⟩
theorem ml_X7_267 : Cond.methodLink RX7 267 yX3_firstDue ∈ gtbl := List.mem_filter.mpr ⟨List.mem_of_getElem? (i := 491) (by decide +kernel), rfl⟩
theorem im_yX3_firstDue : Cond.instanceMethod yX3_firstDue ∈ gtbl := List.mem_filter.mpr ⟨List.mem_of_getElem? (i := 492) (by decide +kernel), rfl⟩
theorem se_yX3_firstDue : Cond.selects RX3 yX3_firstDue yX3_firstDue ∈ gtbl := List.mem_filter.mpr ⟨List.mem_of_getElem? (i := 493) (by decide +kernel), rfl⟩
theorem co_yX3_firstDue : Cond.code yX3_firstDue cX3_firstDue 4 (some .int) ∈ gtbl := List.mem_filter.mpr ⟨List.mem_of_getElem? (i := 494) (by decide +kernel), rfl⟩
theorem ml_X3_43 : Cond.methodLink RX3 43 yX3_spanOn ∈ gtbl := List.mem_filter.mpr ⟨List.mem_of_getElem? (i := 495) (by decide +kernel), rfl⟩
theorem ml_L_56 : Cond.methodLink RL 56 yX7_beyond ∈ gtbl := List.mem_filter.mpr ⟨List.mem_of_getElem? (i := 496) (by decide +kernel), rfl⟩
theorem im_yX7_beyond : Cond.instanceMethod yX7_beyond ∈ gtbl := List.mem_filter.mpr ⟨List.mem_of_getElem? (i := 497) (by decide +kernel), rfl⟩
theorem se_yX7_beyond : Cond.selects RX7 yX7_beyond yX7_beyond ∈ gtbl := List.mem_filter.mpr ⟨List.mem_of_getElem? (i := 498) (by decide +kernel), rfl⟩
theorem co_yX7_beyond : Cond.code yX7_beyond cX7_beyond 3 (some .int) ∈ gtbl := List.mem_filter.mpr ⟨List.mem_of_getElem? (i := 499) (by decide +kernel), rfl⟩
theorem ml_X7_175 : Cond.methodLink RX7 175 yX7_wasBeyond ∈ gtbl := List.mem_filter.mpr ⟨List.mem_of_getElem? (i := 500) (by decide +kernel), rfl⟩
theorem im_yX7_wasBeyond : Cond.instanceMethod yX7_wasBeyond ∈ gtbl := List.mem_filter.mpr ⟨List.mem_of_getElem? (i := 502) (by decide +kernel), rfl⟩
theorem co_yX7_wasBeyond : Cond.code yX7_wasBeyond cX7_wasBeyond 3 (some .boolean) ∈ gtbl := List.mem_filter.mpr ⟨List.mem_of_getElem? (i := 503) (by decide +kernel), rfl⟩
theorem ml_L_60 : Cond.methodLink RL 60 yX7_sweep ∈ gtbl := List.mem_filter.mpr ⟨List.mem_of_getElem? (i := 504) (by decide +kernel), rfl⟩
theorem im_yX7_sweep : Cond.instanceMethod yX7_sweep ∈ gtbl := List.mem_filter.mpr ⟨List.mem_of_getElem? (i := 505) (by decide +kernel), rfl⟩
theorem se_yX7_sweep : Cond.selects RX7 yX7_sweep yX7_sweep ∈ gtbl := List.mem_filter.mpr ⟨List.mem_of_getElem? (i := 506) (by decide +kernel), rfl⟩
theorem co_yX7_sweep : Cond.code yX7_sweep cX7_sweep 4 (some .int) ∈ gtbl := List.mem_filter.mpr ⟨List.mem_of_getElem? (i := 507) (by decide +kernel), rfl⟩
theorem ml_X7_178 : Cond.methodLink RX7 178 yX5_isFull ∈ gtbl := List.mem_filter.mpr ⟨List.mem_of_getElem? (i := 508) (by decide +kernel), rfl⟩
theorem im_yX5_isFull : Cond.instanceMethod yX5_isFull ∈ gtbl := List.mem_filter.mpr ⟨List.mem_of_getElem? (i := 509) (by decide +kernel), rfl⟩
theorem se_yX5_isFull : Cond.selects RX5 yX5_isFull yX5_isFull ∈ gtbl := List.mem_filter.mpr ⟨List.mem_of_getElem? (i := 510) (by decide +kernel), rfl⟩
theorem co_yX5_isFull : Cond.code yX5_isFull cX5_isFull 1 (some .boolean) ∈ gtbl := List.mem_filter.mpr ⟨List.mem_of_getElem? (i := 511) (by decide +kernel), rfl⟩
theorem ml_X7_179 : Cond.methodLink RX7 179 yX5_add ∈ gtbl := List.mem_filter.mpr ⟨List.mem_of_getElem? (i := 512) (by decide +kernel), rfl⟩
theorem im_yX5_add : Cond.instanceMethod yX5_add ∈ gtbl := List.mem_filter.mpr ⟨List.mem_of_getElem? (i := 513) (by decide +kernel), rfl⟩
theorem se_yX5_add : Cond.selects RX5 yX5_add yX5_add ∈ gtbl := List.mem_filter.mpr ⟨List.mem_of_getElem? (i := 514) (by decide +kernel), rfl⟩
theorem co_yX5_add : Cond.code yX5_add cX5_add 5 none ∈ gtbl := List.mem_filter.mpr ⟨List.mem_of_getElem? (i := 515) (by decide +kernel), rfl⟩
theorem ml_L_64 : Cond.methodLink RL 64 yX7_refuse ∈ gtbl := List.mem_filter.mpr ⟨List.mem_of_getElem? (i := 516) (by decide +kernel), rfl⟩
theorem im_yX7_refuse : Cond.instanceMethod yX7_refuse ∈ gtbl := List.mem_filter.mpr ⟨List.mem_of_getElem? (i := 517) (by decide +kernel), rfl⟩
theorem se_yX7_refuse : Cond.selects RX7 yX7_refuse yX7_refuse ∈ gtbl := List.mem_filter.mpr ⟨List.mem_of_getElem? (i := 518) (by decide +kernel), rfl⟩
theorem co_yX7_refuse : Cond.code yX7_refuse cX7_refuse 2 (some .int) ∈ gtbl := List.mem_filter.mpr ⟨List.mem_of_getElem? (i := 519) (by decide +kernel), rfl⟩
theorem ml_L_68 : Cond.methodLink RL 68 yX7_look ∈ gtbl := List.mem_filter.mpr ⟨List.mem_of_getElem? (i := 520) (by decide +kernel), rfl⟩
theorem im_yX7_look : Cond.instanceMethod yX7_look ∈ gtbl := List.mem_filter.mpr ⟨List.mem_of_getElem? (i := 521) (by decide +kernel), rfl⟩
theorem se_yX7_look : Cond.selects RX7 yX7_look yX7_look ∈ gtbl := List.mem_filter.mpr ⟨List.mem_of_getElem? (i := 522) (by decide +kernel), rfl⟩
theorem co_yX7_look : Cond.code yX7_look cX7_look 4 (some .int) ∈ gtbl := List.mem_filter.mpr ⟨List.mem_of_getElem? (i := 523) (by decide +kernel), rfl⟩
theorem ml_X7_184 : Cond.methodLink RX7 184 yX4_isFull ∈ gtbl := List.mem_filter.mpr ⟨List.mem_of_getElem? (i := 524) (by decide +kernel), rfl⟩
theorem im_yX4_isFull : Cond.instanceMethod yX4_isFull ∈ gtbl := List.mem_filter.mpr ⟨List.mem_of_getElem? (i := 525) (by decide +kernel), rfl⟩
theorem se_yX4_isFull : Cond.selects RX4 yX4_isFull yX4_isFull ∈ gtbl := List.mem_filter.mpr ⟨List.mem_of_getElem? (i := 526) (by decide +kernel), rfl⟩
theorem co_yX4_isFull : Cond.code yX4_isFull cX4_isFull 1 (some .boolean) ∈ gtbl := List.mem_filter.mpr ⟨List.mem_of_getElem? (i := 527) (by decide +kernel), rfl⟩
theorem ml_X7_185 : Cond.methodLink RX7 185 yX4_add ∈ gtbl := List.mem_filter.mpr ⟨List.mem_of_getElem? (i := 528) (by decide +kernel), rfl⟩
theorem im_yX4_add : Cond.instanceMethod yX4_add ∈ gtbl := List.mem_filter.mpr ⟨List.mem_of_getElem? (i := 529) (by decide +kernel), rfl⟩
theorem se_yX4_add : Cond.selects RX4 yX4_add yX4_add ∈ gtbl := List.mem_filter.mpr ⟨List.mem_of_getElem? (i := 530) (by decide +kernel), rfl⟩
theorem co_yX4_add : Cond.code yX4_add cX4_add 5 (some .int) ∈ gtbl := List.mem_filter.mpr ⟨List.mem_of_getElem? (i := 531) (by decide +kernel), rfl⟩
theorem ml_L_73 : Cond.methodLink RL 73 yX7_known ∈ gtbl := List.mem_filter.mpr ⟨List.mem_of_getElem? (i := 532) (by decide +kernel), rfl⟩
theorem im_yX7_known : Cond.instanceMethod yX7_known ∈ gtbl := List.mem_filter.mpr ⟨List.mem_of_getElem? (i := 533) (by decide +kernel), rfl⟩
theorem se_yX7_known : Cond.selects RX7 yX7_known yX7_known ∈ gtbl := List.mem_filter.mpr ⟨List.mem_of_getElem? (i := 534) (by decide +kernel), rfl⟩
theorem co_yX7_known : Cond.code yX7_known cX7_known 3 (some .int) ∈ gtbl := List.mem_filter.mpr ⟨List.mem_of_getElem? (i := 535) (by decide +kernel), rfl⟩
theorem ml_L_77 : Cond.methodLink RL 77 yX7_fire ∈ gtbl := List.mem_filter.mpr ⟨List.mem_of_getElem? (i := 536) (by decide +kernel), rfl⟩
theorem im_yX7_fire : Cond.instanceMethod yX7_fire ∈ gtbl := List.mem_filter.mpr ⟨List.mem_of_getElem? (i := 537) (by decide +kernel), rfl⟩
theorem se_yX7_fire : Cond.selects RX7 yX7_fire yX7_fire ∈ gtbl := List.mem_filter.mpr ⟨List.mem_of_getElem? (i := 538) (by decide +kernel), rfl⟩
theorem co_yX7_fire : Cond.code yX7_fire cX7_fire 3 (some .int) ∈ gtbl := List.mem_filter.mpr ⟨List.mem_of_getElem? (i := 539) (by decide +kernel), rfl⟩
theorem ml_X7_191 : Cond.methodLink RX7 191 yX1_isFull ∈ gtbl := List.mem_filter.mpr ⟨List.mem_of_getElem? (i := 540) (by decide +kernel), rfl⟩
theorem im_yX1_isFull : Cond.instanceMethod yX1_isFull ∈ gtbl := List.mem_filter.mpr ⟨List.mem_of_getElem? (i := 541) (by decide +kernel), rfl⟩
theorem se_yX1_isFull : Cond.selects RX1 yX1_isFull yX1_isFull ∈ gtbl := List.mem_filter.mpr ⟨List.mem_of_getElem? (i := 542) (by decide +kernel), rfl⟩
theorem co_yX1_isFull : Cond.code yX1_isFull cX1_isFull 1 (some .boolean) ∈ gtbl := List.mem_filter.mpr ⟨List.mem_of_getElem? (i := 543) (by decide +kernel), rfl⟩
theorem ml_X7_192 : Cond.methodLink RX7 192 yX1_add ∈ gtbl := List.mem_filter.mpr ⟨List.mem_of_getElem? (i := 544) (by decide +kernel), rfl⟩
theorem im_yX1_add : Cond.instanceMethod yX1_add ∈ gtbl := List.mem_filter.mpr ⟨List.mem_of_getElem? (i := 545) (by decide +kernel), rfl⟩
theorem se_yX1_add : Cond.selects RX1 yX1_add yX1_add ∈ gtbl := List.mem_filter.mpr ⟨List.mem_of_getElem? (i := 546) (by decide +kernel), rfl⟩
theorem co_yX1_add : Cond.code yX1_add cX1_add 3 (some .int) ∈ gtbl := List.mem_filter.mpr ⟨List.mem_of_getElem? (i := 547) (by decide +kernel), rfl⟩
theorem ml_L_81 : Cond.methodLink RL 81 yX7_back ∈ gtbl := List.mem_filter.mpr ⟨List.mem_of_getElem? (i := 548) (by decide +kernel), rfl⟩
theorem im_yX7_back : Cond.instanceMethod yX7_back ∈ gtbl := List.mem_filter.mpr ⟨List.mem_of_getElem? (i := 549) (by decide +kernel), rfl⟩
theorem se_yX7_back : Cond.selects RX7 yX7_back yX7_back ∈ gtbl := List.mem_filter.mpr ⟨List.mem_of_getElem? (i := 550) (by decide +kernel), rfl⟩
theorem co_yX7_back : Cond.code yX7_back cX7_back 5 (some .int) ∈ gtbl := List.mem_filter.mpr ⟨List.mem_of_getElem? (i := 551) (by decide +kernel), rfl⟩
theorem ml_X7_194 : Cond.methodLink RX7 194 yX1_has ∈ gtbl := List.mem_filter.mpr ⟨List.mem_of_getElem? (i := 552) (by decide +kernel), rfl⟩
theorem im_yX1_has : Cond.instanceMethod yX1_has ∈ gtbl := List.mem_filter.mpr ⟨List.mem_of_getElem? (i := 553) (by decide +kernel), rfl⟩
theorem se_yX1_has : Cond.selects RX1 yX1_has yX1_has ∈ gtbl := List.mem_filter.mpr ⟨List.mem_of_getElem? (i := 554) (by decide +kernel), rfl⟩
theorem co_yX1_has : Cond.code yX1_has cX1_has 2 (some .boolean) ∈ gtbl := List.mem_filter.mpr ⟨List.mem_of_getElem? (i := 555) (by decide +kernel), rfl⟩
theorem ml_X7_201 : Cond.methodLink RX7 201 yX7_sweeperBy ∈ gtbl := List.mem_filter.mpr ⟨List.mem_of_getElem? (i := 556) (by decide +kernel), rfl⟩
theorem im_yX7_sweeperBy : Cond.instanceMethod yX7_sweeperBy ∈ gtbl := List.mem_filter.mpr ⟨List.mem_of_getElem? (i := 558) (by decide +kernel), rfl⟩
theorem co_yX7_sweeperBy : Cond.code yX7_sweeperBy cX7_sweeperBy 4 (some .int) ∈ gtbl := List.mem_filter.mpr ⟨List.mem_of_getElem? (i := 559) (by decide +kernel), rfl⟩
theorem ml_L_85 : Cond.methodLink RL 85 yX7_rate ∈ gtbl := List.mem_filter.mpr ⟨List.mem_of_getElem? (i := 560) (by decide +kernel), rfl⟩
theorem im_yX7_rate : Cond.instanceMethod yX7_rate ∈ gtbl := List.mem_filter.mpr ⟨List.mem_of_getElem? (i := 561) (by decide +kernel), rfl⟩
theorem se_yX7_rate : Cond.selects RX7 yX7_rate yX7_rate ∈ gtbl := List.mem_filter.mpr ⟨List.mem_of_getElem? (i := 562) (by decide +kernel), rfl⟩
theorem co_yX7_rate : Cond.code yX7_rate cX7_rate 3 (some .int) ∈ gtbl := List.mem_filter.mpr ⟨List.mem_of_getElem? (i := 563) (by decide +kernel), rfl⟩
theorem ml_L_89 : Cond.methodLink RL 89 yX7_ill ∈ gtbl := List.mem_filter.mpr ⟨List.mem_of_getElem? (i := 564) (by decide +kernel), rfl⟩
theorem im_yX7_ill : Cond.instanceMethod yX7_ill ∈ gtbl := List.mem_filter.mpr ⟨List.mem_of_getElem? (i := 565) (by decide +kernel), rfl⟩
theorem se_yX7_ill : Cond.selects RX7 yX7_ill yX7_ill ∈ gtbl := List.mem_filter.mpr ⟨List.mem_of_getElem? (i := 566) (by decide +kernel), rfl⟩
theorem co_yX7_ill : Cond.code yX7_ill cX7_ill 4 (some .int) ∈ gtbl := List.mem_filter.mpr ⟨List.mem_of_getElem? (i := 567) (by decide +kernel), rfl⟩
theorem ml_L_94 : Cond.methodLink RL 94 yX7_fees ∈ gtbl := List.mem_filter.mpr ⟨List.mem_of_getElem? (i := 568) (by decide +kernel), rfl⟩
theorem im_yX7_fees : Cond.instanceMethod yX7_fees ∈ gtbl := List.mem_filter.mpr ⟨List.mem_of_getElem? (i := 569) (by decide +kernel), rfl⟩
theorem se_yX7_fees : Cond.selects RX7 yX7_fees yX7_fees ∈ gtbl := List.mem_filter.mpr ⟨List.mem_of_getElem? (i := 570) (by decide +kernel), rfl⟩
theorem co_yX7_fees : Cond.code yX7_fees cX7_fees 3 (some .int) ∈ gtbl := List.mem_filter.mpr ⟨List.mem_of_getElem? (i := 571) (by decide +kernel), rfl⟩
theorem ml_X7_204 : Cond.methodLink RX7 204 yX5_earnedBy ∈ gtbl := List.mem_filter.mpr ⟨List.mem_of_getElem? (i := 572) (by decide +kernel), rfl⟩
theorem im_yX5_earnedBy : Cond.instanceMethod yX5_earnedBy ∈ gtbl := List.mem_filter.mpr ⟨List.mem_of_getElem? (i := 573) (by decide +kernel), rfl⟩
theorem se_yX5_earnedBy : Cond.selects RX5 yX5_earnedBy yX5_earnedBy ∈ gtbl := List.mem_filter.mpr ⟨List.mem_of_getElem? (i := 574) (by decide +kernel), rfl⟩
theorem co_yX5_earnedBy : Cond.code yX5_earnedBy cX5_earnedBy 4 (some .int) ∈ gtbl := List.mem_filter.mpr ⟨List.mem_of_getElem? (i := 575) (by decide +kernel), rfl⟩
theorem ml_X7_207 : Cond.methodLink RX7 207 yX5_doneBy ∈ gtbl := List.mem_filter.mpr ⟨List.mem_of_getElem? (i := 576) (by decide +kernel), rfl⟩
theorem im_yX5_doneBy : Cond.instanceMethod yX5_doneBy ∈ gtbl := List.mem_filter.mpr ⟨List.mem_of_getElem? (i := 577) (by decide +kernel), rfl⟩
theorem se_yX5_doneBy : Cond.selects RX5 yX5_doneBy yX5_doneBy ∈ gtbl := List.mem_filter.mpr ⟨List.mem_of_getElem? (i := 578) (by decide +kernel), rfl⟩
theorem co_yX5_doneBy : Cond.code yX5_doneBy cX5_doneBy 4 (some .int) ∈ gtbl := List.mem_filter.mpr ⟨List.mem_of_getElem? (i := 579) (by decide +kernel), rfl⟩
theorem ml_L_98 : Cond.methodLink RL 98 yX7_round ∈ gtbl := List.mem_filter.mpr ⟨List.mem_of_getElem? (i := 580) (by decide +kernel), rfl⟩
theorem im_yX7_round : Cond.instanceMethod yX7_round ∈ gtbl := List.mem_filter.mpr ⟨List.mem_of_getElem? (i := 581) (by decide +kernel), rfl⟩
theorem se_yX7_round : Cond.selects RX7 yX7_round yX7_round ∈ gtbl := List.mem_filter.mpr ⟨List.mem_of_getElem? (i := 582) (by decide +kernel), rfl⟩
theorem co_yX7_round : Cond.code yX7_round cX7_round 5 (some .int) ∈ gtbl := List.mem_filter.mpr ⟨List.mem_of_getElem? (i := 583) (by decide +kernel), rfl⟩
theorem ml_X7_213 : Cond.methodLink RX7 213 yX7_waitingSince ∈ gtbl := List.mem_filter.mpr ⟨List.mem_of_getElem? (i := 584) (by decide +kernel), rfl⟩
theorem im_yX7_waitingSince : Cond.instanceMethod yX7_waitingSince ∈ gtbl := List.mem_filter.mpr ⟨List.mem_of_getElem? (i := 586) (by decide +kernel), rfl⟩
theorem co_yX7_waitingSince : Cond.code yX7_waitingSince cX7_waitingSince 5 (some .int) ∈ gtbl := List.mem_filter.mpr ⟨List.mem_of_getElem? (i := 587) (by decide +kernel), rfl⟩
theorem ml_X7_217 : Cond.methodLink RX7 217 yX6_restart ∈ gtbl := List.mem_filter.mpr ⟨List.mem_of_getElem? (i := 588) (by decide +kernel), rfl⟩
theorem im_yX6_restart : Cond.instanceMethod yX6_restart ∈ gtbl := List.mem_filter.mpr ⟨List.mem_of_getElem? (i := 589) (by decide +kernel), rfl⟩
theorem se_yX6_restart : Cond.selects RX6 yX6_restart yX6_restart ∈ gtbl := List.mem_filter.mpr ⟨List.mem_of_getElem? (i := 590) (by decide +kernel), rfl⟩
theorem co_yX6_restart : Cond.code yX6_restart cX6_restart 1 none ∈ gtbl := List.mem_filter.mpr ⟨List.mem_of_getElem? (i := 591) (by decide +kernel), rfl⟩
theorem ml_X7_220 : Cond.methodLink RX7 220 yX2_waitingAheadOf ∈ gtbl := List.mem_filter.mpr ⟨List.mem_of_getElem? (i := 592) (by decide +kernel), rfl⟩
theorem im_yX2_waitingAheadOf : Cond.instanceMethod yX2_waitingAheadOf ∈ gtbl := List.mem_filter.mpr ⟨List.mem_of_getElem? (i := 593) (by decide +kernel), rfl⟩
theorem se_yX2_waitingAheadOf : Cond.selects RX2 yX2_waitingAheadOf yX2_waitingAheadOf ∈ gtbl := List.mem_filter.mpr ⟨List.mem_of_getElem? (i := 594) (by decide +kernel), rfl⟩
theorem co_yX2_waitingAheadOf : Cond.code yX2_waitingAheadOf cX2_waitingAheadOf 5 (some .int) ∈ gtbl := List.mem_filter.mpr ⟨List.mem_of_getElem? (i := 595) (by decide +kernel), rfl⟩
theorem ml_X7_229 : Cond.methodLink RX7 229 yX6_addStop ∈ gtbl := List.mem_filter.mpr ⟨List.mem_of_getElem? (i := 596) (by decide +kernel), rfl⟩
theorem im_yX6_addStop : Cond.instanceMethod yX6_addStop ∈ gtbl := List.mem_filter.mpr ⟨List.mem_of_getElem? (i := 597) (by decide +kernel), rfl⟩
theorem se_yX6_addStop : Cond.selects RX6 yX6_addStop yX6_addStop ∈ gtbl := List.mem_filter.mpr ⟨List.mem_of_getElem? (i := 598) (by decide +kernel), rfl⟩
theorem co_yX6_addStop : Cond.code yX6_addStop cX6_addStop 4 none ∈ gtbl := List.mem_filter.mpr ⟨List.mem_of_getElem? (i := 599) (by decide +kernel), rfl⟩
theorem ml_X7_233 : Cond.methodLink RX7 233 yX6_findLeastWay ∈ gtbl := List.mem_filter.mpr ⟨List.mem_of_getElem? (i := 600) (by decide +kernel), rfl⟩
theorem im_yX6_findLeastWay : Cond.instanceMethod yX6_findLeastWay ∈ gtbl := List.mem_filter.mpr ⟨List.mem_of_getElem? (i := 601) (by decide +kernel), rfl⟩
theorem se_yX6_findLeastWay : Cond.selects RX6 yX6_findLeastWay yX6_findLeastWay ∈ gtbl := List.mem_filter.mpr ⟨List.mem_of_getElem? (i := 602) (by decide +kernel), rfl⟩
theorem co_yX6_findLeastWay : Cond.code yX6_findLeastWay cX6_findLeastWay 1 none ∈ gtbl := List.mem_filter.mpr ⟨List.mem_of_getElem? (i := 603) (by decide +kernel), rfl⟩
theorem kc_X6_38 : Cond.constant RX6 38 (1000000) ∈ gtbl := List.mem_filter.mpr ⟨List.mem_of_getElem? (i := 604) (by decide +kernel), rfl⟩
theorem ml_X6_39 : Cond.methodLink RX6 39 yX6_extend ∈ gtbl := List.mem_filter.mpr ⟨List.mem_of_getElem? (i := 605) (by decide +kernel), rfl⟩
theorem sm_yX6_extend : Cond.static yX6_extend ∈ gtbl := List.mem_filter.mpr ⟨List.mem_of_getElem? (i := 606) (by decide +kernel), rfl⟩
theorem co_yX6_extend : Cond.code yX6_extend cX6_extend 8 none ∈ gtbl := List.mem_filter.mpr ⟨List.mem_of_getElem? (i := 607) (by decide +kernel), rfl⟩
theorem ml_X6_43 : Cond.methodLink RX6 43 yX6_keepTried ∈ gtbl := List.mem_filter.mpr ⟨List.mem_of_getElem? (i := 608) (by decide +kernel), rfl⟩
theorem im_yX6_keepTried : Cond.instanceMethod yX6_keepTried ∈ gtbl := List.mem_filter.mpr ⟨List.mem_of_getElem? (i := 610) (by decide +kernel), rfl⟩
theorem co_yX6_keepTried : Cond.code yX6_keepTried cX6_keepTried 3 none ∈ gtbl := List.mem_filter.mpr ⟨List.mem_of_getElem? (i := 611) (by decide +kernel), rfl⟩
theorem ml_X6_47 : Cond.methodLink RX6 47 yJ9_abs_0f7a4 ∈ gtbl := List.mem_filter.mpr ⟨List.mem_of_getElem? (i := 612) (by decide +kernel), rfl⟩
theorem ml_L_103 : Cond.methodLink RL 103 yX7_at ∈ gtbl := List.mem_filter.mpr ⟨List.mem_of_getElem? (i := 613) (by decide +kernel), rfl⟩
theorem im_yX7_at : Cond.instanceMethod yX7_at ∈ gtbl := List.mem_filter.mpr ⟨List.mem_of_getElem? (i := 614) (by decide +kernel), rfl⟩
theorem se_yX7_at : Cond.selects RX7 yX7_at yX7_at ∈ gtbl := List.mem_filter.mpr ⟨List.mem_of_getElem? (i := 615) (by decide +kernel), rfl⟩
theorem co_yX7_at : Cond.code yX7_at cX7_at 2 (some .int) ∈ gtbl := List.mem_filter.mpr ⟨List.mem_of_getElem? (i := 616) (by decide +kernel), rfl⟩
theorem ml_X7_240 : Cond.methodLink RX7 240 yX6_flueAt ∈ gtbl := List.mem_filter.mpr ⟨List.mem_of_getElem? (i := 617) (by decide +kernel), rfl⟩
theorem im_yX6_flueAt : Cond.instanceMethod yX6_flueAt ∈ gtbl := List.mem_filter.mpr ⟨List.mem_of_getElem? (i := 618) (by decide +kernel), rfl⟩
theorem se_yX6_flueAt : Cond.selects RX6 yX6_flueAt yX6_flueAt ∈ gtbl := List.mem_filter.mpr ⟨List.mem_of_getElem? (i := 619) (by decide +kernel), rfl⟩
theorem co_yX6_flueAt : Cond.code yX6_flueAt cX6_flueAt 2 (some .int) ∈ gtbl := List.mem_filter.mpr ⟨List.mem_of_getElem? (i := 620) (by decide +kernel), rfl⟩
theorem ml_L_107 : Cond.methodLink RL 107 yX7_count ∈ gtbl := List.mem_filter.mpr ⟨List.mem_of_getElem? (i := 621) (by decide +kernel), rfl⟩
theorem im_yX7_count : Cond.instanceMethod yX7_count ∈ gtbl := List.mem_filter.mpr ⟨List.mem_of_getElem? (i := 622) (by decide +kernel), rfl⟩
theorem se_yX7_count : Cond.selects RX7 yX7_count yX7_count ∈ gtbl := List.mem_filter.mpr ⟨List.mem_of_getElem? (i := 623) (by decide +kernel), rfl⟩
theorem co_yX7_count : Cond.code yX7_count cX7_count 2 (some .int) ∈ gtbl := List.mem_filter.mpr ⟨List.mem_of_getElem? (i := 624) (by decide +kernel), rfl⟩
theorem ml_L_111 : Cond.methodLink RL 111 yX7_trace ∈ gtbl := List.mem_filter.mpr ⟨List.mem_of_getElem? (i := 625) (by decide +kernel), rfl⟩
theorem im_yX7_trace : Cond.instanceMethod yX7_trace ∈ gtbl := List.mem_filter.mpr ⟨List.mem_of_getElem? (i := 626) (by decide +kernel), rfl⟩
theorem se_yX7_trace : Cond.selects RX7 yX7_trace yX7_trace ∈ gtbl := List.mem_filter.mpr ⟨List.mem_of_getElem? (i := 627) (by decide +kernel), rfl⟩
theorem co_yX7_trace : Cond.code yX7_trace cX7_trace 1 (some .long) ∈ gtbl := List.mem_filter.mpr ⟨List.mem_of_getElem? (i := 628) (by decide +kernel), rfl⟩
theorem kl_L_10 : Cond.classLink RL 10 RX8 ∈ gtbl := List.mem_filter.mpr ⟨List.mem_of_getElem? (i := 629) (by decide +kernel), rfl⟩
theorem ia_X8 : Cond.instantiable RX8 27 ∈ gtbl := List.mem_filter.mpr ⟨List.mem_of_getElem? (i := 630) (by decide +kernel), rfl⟩
theorem ml_L_12 : Cond.methodLink RL 12 yX8_init ∈ gtbl := List.mem_filter.mpr ⟨List.mem_of_getElem? (i := 631) (by decide +kernel), rfl⟩
theorem im_yX8_init : Cond.instanceMethod yX8_init ∈ gtbl := List.mem_filter.mpr ⟨List.mem_of_getElem? (i := 632) (by decide +kernel), rfl⟩
theorem co_yX8_init : Cond.code yX8_init cX8_init 1 none ∈ gtbl := List.mem_filter.mpr ⟨List.mem_of_getElem? (i := 633) (by decide +kernel), rfl⟩
theorem ml_X8_1 : Cond.methodLink RX8 1 Lib.objectInit ∈ gtbl := List.mem_filter.mpr ⟨List.mem_of_getElem? (i := 634) (by decide +kernel), rfl⟩
theorem fl_X8_57 : Cond.fieldLink RX8 57 "FlueRoundsModel" "thrown" "I" ∈ gtbl := List.mem_filter.mpr ⟨List.mem_of_getElem? (i := 635) (by decide +kernel), rfl⟩
theorem fl_X8_86 : Cond.fieldLink RX8 86 "FlueRoundsModel" "today" "I" ∈ gtbl := List.mem_filter.mpr ⟨List.mem_of_getElem? (i := 636) (by decide +kernel), rfl⟩
theorem fl_X8_7 : Cond.fieldLink RX8 7 "FlueRoundsModel" "draft" "[I" ∈ gtbl := List.mem_filter.mpr ⟨List.mem_of_getElem? (i := 637) (by decide +kernel), rfl⟩
theorem fl_X8_64 : Cond.fieldLink RX8 64 "FlueRoundsModel" "drafted" "I" ∈ gtbl := List.mem_filter.mpr ⟨List.mem_of_getElem? (i := 638) (by decide +kernel), rfl⟩
theorem fl_X8_69 : Cond.fieldLink RX8 69 "FlueRoundsModel" "laws" "I" ∈ gtbl := List.mem_filter.mpr ⟨List.mem_of_getElem? (i := 639) (by decide +kernel), rfl⟩
theorem fl_X8_13 : Cond.fieldLink RX8 13 "FlueRoundsModel" "lawOn" "[I" ∈ gtbl := List.mem_filter.mpr ⟨List.mem_of_getElem? (i := 640) (by decide +kernel), rfl⟩
theorem fl_X8_16 : Cond.fieldLink RX8 16 "FlueRoundsModel" "begins" "[I" ∈ gtbl := List.mem_filter.mpr ⟨List.mem_of_getElem? (i := 641) (by decide +kernel), rfl⟩
theorem fl_X8_19 : Cond.fieldLink RX8 19 "FlueRoundsModel" "fuelOf" "[I" ∈ gtbl := List.mem_filter.mpr ⟨List.mem_of_getElem? (i := 642) (by decide +kernel), rfl⟩
theorem fl_X8_22 : Cond.fieldLink RX8 22 "FlueRoundsModel" "spanOf" "[I" ∈ gtbl := List.mem_filter.mpr ⟨List.mem_of_getElem? (i := 643) (by decide +kernel), rfl⟩
theorem fl_X8_25 : Cond.fieldLink RX8 25 "FlueRoundsModel" "fromOf" "[I" ∈ gtbl := List.mem_filter.mpr ⟨List.mem_of_getElem? (i := 644) (by decide +kernel), rfl⟩
theorem fl_X8_76 : Cond.fieldLink RX8 76 "FlueRoundsModel" "items" "I" ∈ gtbl := List.mem_filter.mpr ⟨List.mem_of_getElem? (i := 645) (by decide +kernel), rfl⟩
theorem fl_X8_93 : Cond.fieldLink RX8 93 "FlueRoundsModel" "flues" "I" ∈ gtbl := List.mem_filter.mpr ⟨List.mem_of_getElem? (i := 646) (by decide +kernel), rfl⟩
theorem fl_X8_28 : Cond.fieldLink RX8 28 "FlueRoundsModel" "flue" "[I" ∈ gtbl := List.mem_filter.mpr ⟨List.mem_of_getElem? (i := 647) (by decide +kernel), rfl⟩
theorem fl_X8_110 : Cond.fieldLink RX8 110 "FlueRoundsModel" "looks" "I" ∈ gtbl := List.mem_filter.mpr ⟨List.mem_of_getElem? (i := 648) (by decide +kernel), rfl⟩
theorem fl_X8_31 : Cond.fieldLink RX8 31 "FlueRoundsModel" "look" "[I" ∈ gtbl := List.mem_filter.mpr ⟨List.mem_of_getElem? (i := 649) (by decide +kernel), rfl⟩
theorem fl_X8_129 : Cond.fieldLink RX8 129 "FlueRoundsModel" "fires" "I" ∈ gtbl := List.mem_filter.mpr ⟨List.mem_of_getElem? (i := 650) (by decide +kernel), rfl⟩
theorem fl_X8_34 : Cond.fieldLink RX8 34 "FlueRoundsModel" "fire" "[I" ∈ gtbl := List.mem_filter.mpr ⟨List.mem_of_getElem? (i := 651) (by decide +kernel), rfl⟩
theorem fl_X8_126 : Cond.fieldLink RX8 126 "FlueRoundsModel" "sweeps" "I" ∈ gtbl := List.mem_filter.mpr ⟨List.mem_of_getElem? (i := 652) (by decide +kernel), rfl⟩
theorem fl_X8_37 : Cond.fieldLink RX8 37 "FlueRoundsModel" "sweep" "[I" ∈ gtbl := List.mem_filter.mpr ⟨List.mem_of_getElem? (i := 653) (by decide +kernel), rfl⟩
theorem fl_X8_40 : Cond.fieldLink RX8 40 "FlueRoundsModel" "rate" "I" ∈ gtbl := List.mem_filter.mpr ⟨List.mem_of_getElem? (i := 654) (by decide +kernel), rfl⟩
theorem fl_X8_44 : Cond.fieldLink RX8 44 "FlueRoundsModel" "isIll" "[Z" ∈ gtbl := List.mem_filter.mpr ⟨List.mem_of_getElem? (i := 655) (by decide +kernel), rfl⟩
theorem fl_X8_135 : Cond.fieldLink RX8 135 "FlueRoundsModel" "roundMany" "I" ∈ gtbl := List.mem_filter.mpr ⟨List.mem_of_getElem? (i := 656) (by decide +kernel), rfl⟩
theorem fl_X8_48 : Cond.fieldLink RX8 48 "FlueRoundsModel" "row" "[I" ∈ gtbl := List.mem_filter.mpr ⟨List.mem_of_getElem? (i := 657) (by decide +kernel), rfl⟩
theorem fl_X8_51 : Cond.fieldLink RX8 51 "FlueRoundsModel" "chosen" "[I" ∈ gtbl := List.mem_filter.mpr ⟨List.mem_of_getElem? (i := 658) (by decide +kernel), rfl⟩
theorem fl_X8_54 : Cond.fieldLink RX8 54 "FlueRoundsModel" "tried" "[I" ∈ gtbl := List.mem_filter.mpr ⟨List.mem_of_getElem? (i := 659) (by decide +kernel), rfl⟩
theorem fl_X8_139 : Cond.fieldLink RX8 139 "FlueRoundsModel" "way" "I" ∈ gtbl := List.mem_filter.mpr ⟨List.mem_of_getElem? (i := 660) (by decide +kernel), rfl⟩
theorem fl_X8_102 : Cond.fieldLink RX8 102 "FlueRoundsModel" "trace" "J" ∈ gtbl := List.mem_filter.mpr ⟨List.mem_of_getElem? (i := 661) (by decide +kernel), rfl⟩
theorem ml_L_19 : Cond.methodLink RL 19 yX8_type ∈ gtbl := List.mem_filter.mpr ⟨List.mem_of_getElem? (i := 717) (by decide +kernel), rfl⟩
theorem im_yX8_type : Cond.instanceMethod yX8_type ∈ gtbl := List.mem_filter.mpr ⟨List.mem_of_getElem? (i := 718) (by decide +kernel), rfl⟩
theorem se_yX8_type : Cond.selects RX8 yX8_type yX8_type ∈ gtbl := List.mem_filter.mpr ⟨List.mem_of_getElem? (i := 719) (by decide +kernel), rfl⟩
theorem co_yX8_type : Cond.code yX8_type cX8_type 5 (some .int) ∈ gtbl := List.mem_filter.mpr ⟨List.mem_of_getElem? (i := 720) (by decide +kernel), rfl⟩
theorem ml_X8_60 : Cond.methodLink RX8 60 yX8_in ∈ gtbl := List.mem_filter.mpr ⟨List.mem_of_getElem? (i := 721) (by decide +kernel), rfl⟩
theorem sm_yX8_in : Cond.static yX8_in ∈ gtbl := List.mem_filter.mpr ⟨List.mem_of_getElem? (i := 722) (by decide +kernel), rfl⟩
theorem co_yX8_in : Cond.code yX8_in cX8_in 3 (some .boolean) ∈ gtbl := List.mem_filter.mpr ⟨List.mem_of_getElem? (i := 723) (by decide +kernel), rfl⟩
theorem kc_X8_67 : Cond.constantLong RX8 67 (255) ∈ gtbl := List.mem_filter.mpr ⟨List.mem_of_getElem? (i := 724) (by decide +kernel), rfl⟩
theorem ml_L_24 : Cond.methodLink RL 24 yX8_clear ∈ gtbl := List.mem_filter.mpr ⟨List.mem_of_getElem? (i := 725) (by decide +kernel), rfl⟩
theorem im_yX8_clear : Cond.instanceMethod yX8_clear ∈ gtbl := List.mem_filter.mpr ⟨List.mem_of_getElem? (i := 726) (by decide +kernel), rfl⟩
theorem se_yX8_clear : Cond.selects RX8 yX8_clear yX8_clear ∈ gtbl := List.mem_filter.mpr ⟨List.mem_of_getElem? (i := 727) (by decide +kernel), rfl⟩
theorem co_yX8_clear : Cond.code yX8_clear cX8_clear 2 (some .int) ∈ gtbl := List.mem_filter.mpr ⟨List.mem_of_getElem? (i := 728) (by decide +kernel), rfl⟩
theorem ml_L_28 : Cond.methodLink RL 28 yX8_law ∈ gtbl := List.mem_filter.mpr ⟨List.mem_of_getElem? (i := 729) (by decide +kernel), rfl⟩
theorem im_yX8_law : Cond.instanceMethod yX8_law ∈ gtbl := List.mem_filter.mpr ⟨List.mem_of_getElem? (i := 730) (by decide +kernel), rfl⟩
theorem se_yX8_law : Cond.selects RX8 yX8_law yX8_law ∈ gtbl := List.mem_filter.mpr ⟨List.mem_of_getElem? (i := 731) (by decide +kernel), rfl⟩
theorem co_yX8_law : Cond.code yX8_law cX8_law 2 (some .int) ∈ gtbl := List.mem_filter.mpr ⟨List.mem_of_getElem? (i := 732) (by decide +kernel), rfl⟩
theorem ml_X8_79 : Cond.methodLink RX8 79 yX8_faultAlone ∈ gtbl := List.mem_filter.mpr ⟨List.mem_of_getElem? (i := 733) (by decide +kernel), rfl⟩
theorem im_yX8_faultAlone : Cond.instanceMethod yX8_faultAlone ∈ gtbl := List.mem_filter.mpr ⟨List.mem_of_getElem? (i := 735) (by decide +kernel), rfl⟩
theorem co_yX8_faultAlone : Cond.code yX8_faultAlone cX8_faultAlone 3 (some .int) ∈ gtbl := List.mem_filter.mpr ⟨List.mem_of_getElem? (i := 736) (by decide +kernel), rfl⟩
theorem ml_X8_83 : Cond.methodLink RX8 83 yX8_reads ∈ gtbl := List.mem_filter.mpr ⟨List.mem_of_getElem? (i := 737) (by decide +kernel), rfl⟩
theorem im_yX8_reads : Cond.instanceMethod yX8_reads ∈ gtbl := List.mem_filter.mpr ⟨List.mem_of_getElem? (i := 739) (by decide +kernel), rfl⟩
theorem co_yX8_reads : Cond.code yX8_reads cX8_reads 8 (some .int) ∈ gtbl := List.mem_filter.mpr ⟨List.mem_of_getElem? (i := 740) (by decide +kernel), rfl⟩
theorem ml_X8_72 : Cond.methodLink RX8 72 yX8_isDigit ∈ gtbl := List.mem_filter.mpr ⟨List.mem_of_getElem? (i := 741) (by decide +kernel), rfl⟩
theorem im_yX8_isDigit : Cond.instanceMethod yX8_isDigit ∈ gtbl := List.mem_filter.mpr ⟨List.mem_of_getElem? (i := 743) (by decide +kernel), rfl⟩
theorem co_yX8_isDigit : Cond.code yX8_isDigit cX8_isDigit 2 (some .boolean) ∈ gtbl := List.mem_filter.mpr ⟨List.mem_of_getElem? (i := 744) (by decide +kernel), rfl⟩
theorem ml_L_33 : Cond.methodLink RL 33 yX8_span ∈ gtbl := List.mem_filter.mpr ⟨List.mem_of_getElem? (i := 745) (by decide +kernel), rfl⟩
theorem im_yX8_span : Cond.instanceMethod yX8_span ∈ gtbl := List.mem_filter.mpr ⟨List.mem_of_getElem? (i := 746) (by decide +kernel), rfl⟩
theorem se_yX8_span : Cond.selects RX8 yX8_span yX8_span ∈ gtbl := List.mem_filter.mpr ⟨List.mem_of_getElem? (i := 747) (by decide +kernel), rfl⟩
theorem co_yX8_span : Cond.code yX8_span cX8_span 3 (some .int) ∈ gtbl := List.mem_filter.mpr ⟨List.mem_of_getElem? (i := 748) (by decide +kernel), rfl⟩
theorem ml_X8_89 : Cond.methodLink RX8 89 yX8_spanBy ∈ gtbl := List.mem_filter.mpr ⟨List.mem_of_getElem? (i := 749) (by decide +kernel), rfl⟩
theorem im_yX8_spanBy : Cond.instanceMethod yX8_spanBy ∈ gtbl := List.mem_filter.mpr ⟨List.mem_of_getElem? (i := 751) (by decide +kernel), rfl⟩
theorem co_yX8_spanBy : Cond.code yX8_spanBy cX8_spanBy 6 (some .int) ∈ gtbl := List.mem_filter.mpr ⟨List.mem_of_getElem? (i := 752) (by decide +kernel), rfl⟩
theorem ml_L_38 : Cond.methodLink RL 38 yX8_days ∈ gtbl := List.mem_filter.mpr ⟨List.mem_of_getElem? (i := 753) (by decide +kernel), rfl⟩
theorem im_yX8_days : Cond.instanceMethod yX8_days ∈ gtbl := List.mem_filter.mpr ⟨List.mem_of_getElem? (i := 754) (by decide +kernel), rfl⟩
theorem se_yX8_days : Cond.selects RX8 yX8_days yX8_days ∈ gtbl := List.mem_filter.mpr ⟨List.mem_of_getElem? (i := 755) (by decide +kernel), rfl⟩
theorem co_yX8_days : Cond.code yX8_days cX8_days 2 (some .int) ∈ gtbl := List.mem_filter.mpr ⟨List.mem_of_getElem? (i := 756) (by decide +kernel), rfl⟩
theorem ml_L_43 : Cond.methodLink RL 43 yX8_flue ∈ gtbl := List.mem_filter.mpr ⟨List.mem_of_getElem? (i := 757) (by decide +kernel), rfl⟩
theorem im_yX8_flue : Cond.instanceMethod yX8_flue ∈ gtbl := List.mem_filter.mpr ⟨List.mem_of_getElem? (i := 758) (by decide +kernel), rfl⟩
theorem se_yX8_flue : Cond.selects RX8 yX8_flue yX8_flue ∈ gtbl := List.mem_filter.mpr ⟨List.mem_of_getElem? (i := 759) (by decide +kernel), rfl⟩
theorem co_yX8_flue : Cond.code yX8_flue cX8_flue 10 (some .int) ∈ gtbl := List.mem_filter.mpr ⟨List.mem_of_getElem? (i := 760) (by decide +kernel), rfl⟩
theorem ml_L_47 : Cond.methodLink RL 47 yX8_draught ∈ gtbl := List.mem_filter.mpr ⟨List.mem_of_getElem? (i := 761) (by decide +kernel), rfl⟩
theorem im_yX8_draught : Cond.instanceMethod yX8_draught ∈ gtbl := List.mem_filter.mpr ⟨List.mem_of_getElem? (i := 762) (by decide +kernel), rfl⟩
theorem se_yX8_draught : Cond.selects RX8 yX8_draught yX8_draught ∈ gtbl := List.mem_filter.mpr ⟨List.mem_of_getElem? (i := 763) (by decide +kernel), rfl⟩
theorem co_yX8_draught : Cond.code yX8_draught cX8_draught 5 (some .int) ∈ gtbl := List.mem_filter.mpr ⟨List.mem_of_getElem? (i := 764) (by decide +kernel), rfl⟩
theorem ml_X8_96 : Cond.methodLink RX8 96 yX8_isFlue ∈ gtbl := List.mem_filter.mpr ⟨List.mem_of_getElem? (i := 765) (by decide +kernel), rfl⟩
theorem im_yX8_isFlue : Cond.instanceMethod yX8_isFlue ∈ gtbl := List.mem_filter.mpr ⟨List.mem_of_getElem? (i := 767) (by decide +kernel), rfl⟩
theorem co_yX8_isFlue : Cond.code yX8_isFlue cX8_isFlue 2 (some .boolean) ∈ gtbl := List.mem_filter.mpr ⟨List.mem_of_getElem? (i := 768) (by decide +kernel), rfl⟩
theorem ml_X8_99 : Cond.methodLink RX8 99 yX8_of ∈ gtbl := List.mem_filter.mpr ⟨List.mem_of_getElem? (i := 769) (by decide +kernel), rfl⟩
theorem im_yX8_of : Cond.instanceMethod yX8_of ∈ gtbl := List.mem_filter.mpr ⟨List.mem_of_getElem? (i := 771) (by decide +kernel), rfl⟩
theorem co_yX8_of : Cond.code yX8_of cX8_of 3 (some .int) ∈ gtbl := List.mem_filter.mpr ⟨List.mem_of_getElem? (i := 772) (by decide +kernel), rfl⟩
theorem kc_X8_106 : Cond.constantLong RX8 106 (11) ∈ gtbl := List.mem_filter.mpr ⟨List.mem_of_getElem? (i := 773) (by decide +kernel), rfl⟩
theorem kc_X8_108 : Cond.constantLong RX8 108 (111) ∈ gtbl := List.mem_filter.mpr ⟨List.mem_of_getElem? (i := 774) (by decide +kernel), rfl⟩
theorem ml_L_51 : Cond.methodLink RL 51 yX8_about ∈ gtbl := List.mem_filter.mpr ⟨List.mem_of_getElem? (i := 775) (by decide +kernel), rfl⟩
theorem im_yX8_about : Cond.instanceMethod yX8_about ∈ gtbl := List.mem_filter.mpr ⟨List.mem_of_getElem? (i := 776) (by decide +kernel), rfl⟩
theorem se_yX8_about : Cond.selects RX8 yX8_about yX8_about ∈ gtbl := List.mem_filter.mpr ⟨List.mem_of_getElem? (i := 777) (by decide +kernel), rfl⟩
theorem co_yX8_about : Cond.code yX8_about cX8_about 3 (some .int) ∈ gtbl := List.mem_filter.mpr ⟨List.mem_of_getElem? (i := 778) (by decide +kernel), rfl⟩
theorem ml_X8_116 : Cond.methodLink RX8 116 yX8_isForbidden ∈ gtbl := List.mem_filter.mpr ⟨List.mem_of_getElem? (i := 779) (by decide +kernel), rfl⟩
theorem im_yX8_isForbidden : Cond.instanceMethod yX8_isForbidden ∈ gtbl := List.mem_filter.mpr ⟨List.mem_of_getElem? (i := 781) (by decide +kernel), rfl⟩
theorem co_yX8_isForbidden : Cond.code yX8_isForbidden cX8_isForbidden 2 (some .boolean) ∈ gtbl := List.mem_filter.mpr ⟨List.mem_of_getElem? (i := 782) (by decide +kernel), rfl⟩
theorem ml_X8_113 : Cond.methodLink RX8 113 yX8_knownOn ∈ gtbl := List.mem_filter.mpr ⟨List.mem_of_getElem? (i := 783) (by decide +kernel), rfl⟩
theorem im_yX8_knownOn : Cond.instanceMethod yX8_knownOn ∈ gtbl := List.mem_filter.mpr ⟨List.mem_of_getElem? (i := 785) (by decide +kernel), rfl⟩
theorem co_yX8_knownOn : Cond.code yX8_knownOn cX8_knownOn 6 (some .int) ∈ gtbl := List.mem_filter.mpr ⟨List.mem_of_getElem? (i := 786) (by decide +kernel), rfl⟩
theorem ml_X8_119 : Cond.methodLink RX8 119 yX8_doer ∈ gtbl := List.mem_filter.mpr ⟨List.mem_of_getElem? (i := 787) (by decide +kernel), rfl⟩
theorem im_yX8_doer : Cond.instanceMethod yX8_doer ∈ gtbl := List.mem_filter.mpr ⟨List.mem_of_getElem? (i := 789) (by decide +kernel), rfl⟩
theorem co_yX8_doer : Cond.code yX8_doer cX8_doer 11 (some .int) ∈ gtbl := List.mem_filter.mpr ⟨List.mem_of_getElem? (i := 790) (by decide +kernel), rfl⟩
theorem ml_L_55 : Cond.methodLink RL 55 yX8_due ∈ gtbl := List.mem_filter.mpr ⟨List.mem_of_getElem? (i := 791) (by decide +kernel), rfl⟩
theorem im_yX8_due : Cond.instanceMethod yX8_due ∈ gtbl := List.mem_filter.mpr ⟨List.mem_of_getElem? (i := 792) (by decide +kernel), rfl⟩
theorem se_yX8_due : Cond.selects RX8 yX8_due yX8_due ∈ gtbl := List.mem_filter.mpr ⟨List.mem_of_getElem? (i := 793) (by decide +kernel), rfl⟩
theorem co_yX8_due : Cond.code yX8_due cX8_due 2 (some .int) ∈ gtbl := List.mem_filter.mpr ⟨List.mem_of_getElem? (i := 794) (by decide +kernel), rfl⟩
theorem ml_X8_123 : Cond.methodLink RX8 123 yX8_dueBy ∈ gtbl := List.mem_filter.mpr ⟨List.mem_of_getElem? (i := 795) (by decide +kernel), rfl⟩
theorem im_yX8_dueBy : Cond.instanceMethod yX8_dueBy ∈ gtbl := List.mem_filter.mpr ⟨List.mem_of_getElem? (i := 797) (by decide +kernel), rfl⟩
theorem co_yX8_dueBy : Cond.code yX8_dueBy cX8_dueBy 4 (some .int) ∈ gtbl := List.mem_filter.mpr ⟨List.mem_of_getElem? (i := 798) (by decide +kernel), rfl⟩
theorem ml_L_59 : Cond.methodLink RL 59 yX8_beyond ∈ gtbl := List.mem_filter.mpr ⟨List.mem_of_getElem? (i := 799) (by decide +kernel), rfl⟩
theorem im_yX8_beyond : Cond.instanceMethod yX8_beyond ∈ gtbl := List.mem_filter.mpr ⟨List.mem_of_getElem? (i := 800) (by decide +kernel), rfl⟩
theorem se_yX8_beyond : Cond.selects RX8 yX8_beyond yX8_beyond ∈ gtbl := List.mem_filter.mpr ⟨List.mem_of_getElem? (i := 801) (by decide +kernel), rfl⟩
theorem co_yX8_beyond : Cond.code yX8_beyond cX8_beyond 3 (some .int) ∈ gtbl := List.mem_filter.mpr ⟨List.mem_of_getElem? (i := 802) (by decide +kernel), rfl⟩
theorem ml_L_63 : Cond.methodLink RL 63 yX8_sweep ∈ gtbl := List.mem_filter.mpr ⟨List.mem_of_getElem? (i := 803) (by decide +kernel), rfl⟩
theorem im_yX8_sweep : Cond.instanceMethod yX8_sweep ∈ gtbl := List.mem_filter.mpr ⟨List.mem_of_getElem? (i := 804) (by decide +kernel), rfl⟩
theorem se_yX8_sweep : Cond.selects RX8 yX8_sweep yX8_sweep ∈ gtbl := List.mem_filter.mpr ⟨List.mem_of_getElem? (i := 805) (by decide +kernel), rfl⟩
theorem co_yX8_sweep : Cond.code yX8_sweep cX8_sweep 4 (some .int) ∈ gtbl := List.mem_filter.mpr ⟨List.mem_of_getElem? (i := 806) (by decide +kernel), rfl⟩
theorem ml_L_67 : Cond.methodLink RL 67 yX8_refuse ∈ gtbl := List.mem_filter.mpr ⟨List.mem_of_getElem? (i := 807) (by decide +kernel), rfl⟩
theorem im_yX8_refuse : Cond.instanceMethod yX8_refuse ∈ gtbl := List.mem_filter.mpr ⟨List.mem_of_getElem? (i := 808) (by decide +kernel), rfl⟩
theorem se_yX8_refuse : Cond.selects RX8 yX8_refuse yX8_refuse ∈ gtbl := List.mem_filter.mpr ⟨List.mem_of_getElem? (i := 809) (by decide +kernel), rfl⟩
theorem co_yX8_refuse : Cond.code yX8_refuse cX8_refuse 2 (some .int) ∈ gtbl := List.mem_filter.mpr ⟨List.mem_of_getElem? (i := 810) (by decide +kernel), rfl⟩
theorem ml_L_72 : Cond.methodLink RL 72 yX8_look ∈ gtbl := List.mem_filter.mpr ⟨List.mem_of_getElem? (i := 811) (by decide +kernel), rfl⟩
theorem im_yX8_look : Cond.instanceMethod yX8_look ∈ gtbl := List.mem_filter.mpr ⟨List.mem_of_getElem? (i := 812) (by decide +kernel), rfl⟩
theorem se_yX8_look : Cond.selects RX8 yX8_look yX8_look ∈ gtbl := List.mem_filter.mpr ⟨List.mem_of_getElem? (i := 813) (by decide +kernel), rfl⟩
theorem co_yX8_look : Cond.code yX8_look cX8_look 4 (some .int) ∈ gtbl := List.mem_filter.mpr ⟨List.mem_of_getElem? (i := 814) (by decide +kernel), rfl⟩
theorem ml_L_76 : Cond.methodLink RL 76 yX8_known ∈ gtbl := List.mem_filter.mpr ⟨List.mem_of_getElem? (i := 815) (by decide +kernel), rfl⟩
theorem im_yX8_known : Cond.instanceMethod yX8_known ∈ gtbl := List.mem_filter.mpr ⟨List.mem_of_getElem? (i := 816) (by decide +kernel), rfl⟩
theorem se_yX8_known : Cond.selects RX8 yX8_known yX8_known ∈ gtbl := List.mem_filter.mpr ⟨List.mem_of_getElem? (i := 817) (by decide +kernel), rfl⟩
theorem co_yX8_known : Cond.code yX8_known cX8_known 3 (some .int) ∈ gtbl := List.mem_filter.mpr ⟨List.mem_of_getElem? (i := 818) (by decide +kernel), rfl⟩
theorem ml_L_80 : Cond.methodLink RL 80 yX8_fire ∈ gtbl := List.mem_filter.mpr ⟨List.mem_of_getElem? (i := 819) (by decide +kernel), rfl⟩
theorem im_yX8_fire : Cond.instanceMethod yX8_fire ∈ gtbl := List.mem_filter.mpr ⟨List.mem_of_getElem? (i := 820) (by decide +kernel), rfl⟩
theorem se_yX8_fire : Cond.selects RX8 yX8_fire yX8_fire ∈ gtbl := List.mem_filter.mpr ⟨List.mem_of_getElem? (i := 821) (by decide +kernel), rfl⟩
theorem co_yX8_fire : Cond.code yX8_fire cX8_fire 3 (some .int) ∈ gtbl := List.mem_filter.mpr ⟨List.mem_of_getElem? (i := 822) (by decide +kernel), rfl⟩
theorem ml_L_84 : Cond.methodLink RL 84 yX8_back ∈ gtbl := List.mem_filter.mpr ⟨List.mem_of_getElem? (i := 823) (by decide +kernel), rfl⟩
theorem im_yX8_back : Cond.instanceMethod yX8_back ∈ gtbl := List.mem_filter.mpr ⟨List.mem_of_getElem? (i := 824) (by decide +kernel), rfl⟩
theorem se_yX8_back : Cond.selects RX8 yX8_back yX8_back ∈ gtbl := List.mem_filter.mpr ⟨List.mem_of_getElem? (i := 825) (by decide +kernel), rfl⟩
theorem co_yX8_back : Cond.code yX8_back cX8_back 8 (some .int) ∈ gtbl := List.mem_filter.mpr ⟨List.mem_of_getElem? (i := 826) (by decide +kernel), rfl⟩
theorem ml_L_88 : Cond.methodLink RL 88 yX8_rate ∈ gtbl := List.mem_filter.mpr ⟨List.mem_of_getElem? (i := 827) (by decide +kernel), rfl⟩
theorem im_yX8_rate : Cond.instanceMethod yX8_rate ∈ gtbl := List.mem_filter.mpr ⟨List.mem_of_getElem? (i := 828) (by decide +kernel), rfl⟩
theorem se_yX8_rate : Cond.selects RX8 yX8_rate yX8_rate ∈ gtbl := List.mem_filter.mpr ⟨List.mem_of_getElem? (i := 829) (by decide +kernel), rfl⟩
theorem co_yX8_rate : Cond.code yX8_rate cX8_rate 3 (some .int) ∈ gtbl := List.mem_filter.mpr ⟨List.mem_of_getElem? (i := 830) (by decide +kernel), rfl⟩
theorem ml_L_93 : Cond.methodLink RL 93 yX8_ill ∈ gtbl := List.mem_filter.mpr ⟨List.mem_of_getElem? (i := 831) (by decide +kernel), rfl⟩
theorem im_yX8_ill : Cond.instanceMethod yX8_ill ∈ gtbl := List.mem_filter.mpr ⟨List.mem_of_getElem? (i := 832) (by decide +kernel), rfl⟩
theorem se_yX8_ill : Cond.selects RX8 yX8_ill yX8_ill ∈ gtbl := List.mem_filter.mpr ⟨List.mem_of_getElem? (i := 833) (by decide +kernel), rfl⟩
theorem co_yX8_ill : Cond.code yX8_ill cX8_ill 4 (some .int) ∈ gtbl := List.mem_filter.mpr ⟨List.mem_of_getElem? (i := 834) (by decide +kernel), rfl⟩
theorem ml_X8_132 : Cond.methodLink RX8 132 yX8_isHand ∈ gtbl := List.mem_filter.mpr ⟨List.mem_of_getElem? (i := 835) (by decide +kernel), rfl⟩
theorem sm_yX8_isHand : Cond.static yX8_isHand ∈ gtbl := List.mem_filter.mpr ⟨List.mem_of_getElem? (i := 836) (by decide +kernel), rfl⟩
theorem co_yX8_isHand : Cond.code yX8_isHand cX8_isHand 1 (some .boolean) ∈ gtbl := List.mem_filter.mpr ⟨List.mem_of_getElem? (i := 837) (by decide +kernel), rfl⟩
theorem ml_L_97 : Cond.methodLink RL 97 yX8_fees ∈ gtbl := List.mem_filter.mpr ⟨List.mem_of_getElem? (i := 838) (by decide +kernel), rfl⟩
theorem im_yX8_fees : Cond.instanceMethod yX8_fees ∈ gtbl := List.mem_filter.mpr ⟨List.mem_of_getElem? (i := 839) (by decide +kernel), rfl⟩
theorem se_yX8_fees : Cond.selects RX8 yX8_fees yX8_fees ∈ gtbl := List.mem_filter.mpr ⟨List.mem_of_getElem? (i := 840) (by decide +kernel), rfl⟩
theorem co_yX8_fees : Cond.code yX8_fees cX8_fees 5 (some .int) ∈ gtbl := List.mem_filter.mpr ⟨List.mem_of_getElem? (i := 841) (by decide +kernel), rfl⟩
theorem ml_L_102 : Cond.methodLink RL 102 yX8_round ∈ gtbl := List.mem_filter.mpr ⟨List.mem_of_getElem? (i := 842) (by decide +kernel), rfl⟩
theorem im_yX8_round : Cond.instanceMethod yX8_round ∈ gtbl := List.mem_filter.mpr ⟨List.mem_of_getElem? (i := 843) (by decide +kernel), rfl⟩
theorem se_yX8_round : Cond.selects RX8 yX8_round yX8_round ∈ gtbl := List.mem_filter.mpr ⟨List.mem_of_getElem? (i := 844) (by decide +kernel), rfl⟩
theorem co_yX8_round : Cond.code yX8_round cX8_round 11 (some .int) ∈ gtbl := List.mem_filter.mpr ⟨List.mem_of_getElem? (i := 845) (by decide +kernel), rfl⟩
theorem kc_X8_138 : Cond.constant RX8 138 (100000) ∈ gtbl := List.mem_filter.mpr ⟨List.mem_of_getElem? (i := 846) (by decide +kernel), rfl⟩
theorem ml_X8_142 : Cond.methodLink RX8 142 yX8_wayOf ∈ gtbl := List.mem_filter.mpr ⟨List.mem_of_getElem? (i := 847) (by decide +kernel), rfl⟩
theorem im_yX8_wayOf : Cond.instanceMethod yX8_wayOf ∈ gtbl := List.mem_filter.mpr ⟨List.mem_of_getElem? (i := 849) (by decide +kernel), rfl⟩
theorem co_yX8_wayOf : Cond.code yX8_wayOf cX8_wayOf 8 (some .int) ∈ gtbl := List.mem_filter.mpr ⟨List.mem_of_getElem? (i := 850) (by decide +kernel), rfl⟩
theorem ml_X8_145 : Cond.methodLink RX8 145 yX8_goesOn ∈ gtbl := List.mem_filter.mpr ⟨List.mem_of_getElem? (i := 851) (by decide +kernel), rfl⟩
theorem im_yX8_goesOn : Cond.instanceMethod yX8_goesOn ∈ gtbl := List.mem_filter.mpr ⟨List.mem_of_getElem? (i := 853) (by decide +kernel), rfl⟩
theorem co_yX8_goesOn : Cond.code yX8_goesOn cX8_goesOn 7 (some .boolean) ∈ gtbl := List.mem_filter.mpr ⟨List.mem_of_getElem? (i := 854) (by decide +kernel), rfl⟩
theorem ml_L_106 : Cond.methodLink RL 106 yX8_at ∈ gtbl := List.mem_filter.mpr ⟨List.mem_of_getElem? (i := 855) (by decide +kernel), rfl⟩
theorem im_yX8_at : Cond.instanceMethod yX8_at ∈ gtbl := List.mem_filter.mpr ⟨List.mem_of_getElem? (i := 856) (by decide +kernel), rfl⟩
theorem se_yX8_at : Cond.selects RX8 yX8_at yX8_at ∈ gtbl := List.mem_filter.mpr ⟨List.mem_of_getElem? (i := 857) (by decide +kernel), rfl⟩
theorem co_yX8_at : Cond.code yX8_at cX8_at 2 (some .int) ∈ gtbl := List.mem_filter.mpr ⟨List.mem_of_getElem? (i := 858) (by decide +kernel), rfl⟩
theorem ml_L_110 : Cond.methodLink RL 110 yX8_count ∈ gtbl := List.mem_filter.mpr ⟨List.mem_of_getElem? (i := 859) (by decide +kernel), rfl⟩
theorem im_yX8_count : Cond.instanceMethod yX8_count ∈ gtbl := List.mem_filter.mpr ⟨List.mem_of_getElem? (i := 860) (by decide +kernel), rfl⟩
theorem se_yX8_count : Cond.selects RX8 yX8_count yX8_count ∈ gtbl := List.mem_filter.mpr ⟨List.mem_of_getElem? (i := 861) (by decide +kernel), rfl⟩
theorem co_yX8_count : Cond.code yX8_count cX8_count 2 (some .int) ∈ gtbl := List.mem_filter.mpr ⟨List.mem_of_getElem? (i := 862) (by decide +kernel), rfl⟩
theorem ml_L_115 : Cond.methodLink RL 115 yX8_trace ∈ gtbl := List.mem_filter.mpr ⟨List.mem_of_getElem? (i := 863) (by decide +kernel), rfl⟩
theorem im_yX8_trace : Cond.instanceMethod yX8_trace ∈ gtbl := List.mem_filter.mpr ⟨List.mem_of_getElem? (i := 864) (by decide +kernel), rfl⟩
theorem se_yX8_trace : Cond.selects RX8 yX8_trace yX8_trace ∈ gtbl := List.mem_filter.mpr ⟨List.mem_of_getElem? (i := 865) (by decide +kernel), rfl⟩
theorem co_yX8_trace : Cond.code yX8_trace cX8_trace 1 (some .long) ∈ gtbl := List.mem_filter.mpr ⟨List.mem_of_getElem? (i := 866) (by decide +kernel), rfl⟩
theorem kc_L_13 : Cond.constantLong RL 13 (4294967295) ∈ gtbl := List.mem_filter.mpr ⟨List.mem_of_getElem? (i := 867) (by decide +kernel), rfl⟩
end
section
section AWF
variable {X : XT} {G : GT} {d : Nat} {own : String} {cc : ByteArray} {nL : Nat} {pc : Nat} {L st : List Value} {S : St}
theorem ag_X0_bytes (hX : XC X G d own cc nL) {idx : Nat} (hlk : Cond.fieldLink own idx "FlueRounds$Draft" "bytes" "[I" ∈ gtbl) (hd : decode cc pc = .ok (.getfield idx, 3)) (k : AW X G (pc + 3) L (.ref (gad G 10) :: st) S) : AW X G pc L (.ref (gad G 1) :: st) S := by
  obtain ⟨p, l, e, R, s, m, args, below, meth, c, cells, slots, Q, A⟩ := X
  exact fun H locs ls hP hS hl => va_get (D := G.1) (ci := 0) (C := RX0) (T := TX0) (N := 9) hX.1 hX.2.1 hX.2.2.2.2.1 inX0 hX.2.2.2.1 hX.2.2.2.2.2.1 hP 1 rfl rfl 0 (by decide) (hX.2.2.2.2.1 _ hlk) (fun _ h => h) rfl hd (k H locs ls hP hS hl)
theorem ag_X0_size (hX : XC X G d own cc nL) {idx : Nat} (hlk : Cond.fieldLink own idx "FlueRounds$Draft" "size" "I" ∈ gtbl) (hd : decode cc pc = .ok (.getfield idx, 3)) (k : AW X G (pc + 3) L (.int (nI (S.1 2)) :: st) S) : AW X G pc L (.ref (gad G 1) :: st) S := by
  obtain ⟨p, l, e, R, s, m, args, below, meth, c, cells, slots, Q, A⟩ := X
  exact fun H locs ls hP hS hl => va_get (D := G.1) (ci := 0) (C := RX0) (T := TX0) (N := 9) hX.1 hX.2.1 hX.2.2.2.2.1 inX0 hX.2.2.2.1 hX.2.2.2.2.2.1 hP 1 rfl rfl 1 (by decide) (hX.2.2.2.2.1 _ hlk) (fun _ h => h) rfl hd (k H locs ls hP hS hl)
theorem ap_X0_size (hX : XC X G d own cc nL) {v : Nat} {idx : Nat} (hlk : Cond.fieldLink own idx "FlueRounds$Draft" "size" "I" ∈ gtbl) (hd : decode cc pc = .ok (.putfield idx, 3)) (k : AW X G (pc + 3) L st (sN S 2 v)) : AW X G pc L (.int (nI v) :: .ref (gad G 1) :: st) S := by
  obtain ⟨p, l, e, R, s, m, args, below, meth, c, cells, slots, Q, A⟩ := X
  exact fun H locs ls hP hS hl => va_put (D := G.1) (ci := 0) (C := RX0) (T := TX0) (N := 9) (v := .int (nI v)) (ty := .int) hX.1 hX.2.1 hX.2.2.2.2.1 inX0 tyX0 tyX0_ok nmX0 hX.2.2.2.1 hX.2.2.2.2.2.1 hP (gws_D hX.2.2.2.2.2.2.1 hX.2.2.2.2.2.2.2.1) hS 1 rfl rfl 1 (by decide) (hX.2.2.2.2.1 _ hlk) (fun _ h => h) rfl (by decide +kernel) rfl rfl (Nat.le_of_ble_eq_true rfl) hd (fun H1 locs1 hP1 _ hS1 => k H1 locs1 ls hP1 hS1 hl)
theorem ag_X0_itemFuel (hX : XC X G d own cc nL) {idx : Nat} (hlk : Cond.fieldLink own idx "FlueRounds$Draft" "itemFuel" "[I" ∈ gtbl) (hd : decode cc pc = .ok (.getfield idx, 3)) (k : AW X G (pc + 3) L (.ref (gad G 11) :: st) S) : AW X G pc L (.ref (gad G 1) :: st) S := by
  obtain ⟨p, l, e, R, s, m, args, below, meth, c, cells, slots, Q, A⟩ := X
  exact fun H locs ls hP hS hl => va_get (D := G.1) (ci := 0) (C := RX0) (T := TX0) (N := 9) hX.1 hX.2.1 hX.2.2.2.2.1 inX0 hX.2.2.2.1 hX.2.2.2.2.2.1 hP 1 rfl rfl 2 (by decide) (hX.2.2.2.2.1 _ hlk) (fun _ h => h) rfl hd (k H locs ls hP hS hl)
theorem ag_X0_itemSpan (hX : XC X G d own cc nL) {idx : Nat} (hlk : Cond.fieldLink own idx "FlueRounds$Draft" "itemSpan" "[I" ∈ gtbl) (hd : decode cc pc = .ok (.getfield idx, 3)) (k : AW X G (pc + 3) L (.ref (gad G 12) :: st) S) : AW X G pc L (.ref (gad G 1) :: st) S := by
  obtain ⟨p, l, e, R, s, m, args, below, meth, c, cells, slots, Q, A⟩ := X
  exact fun H locs ls hP hS hl => va_get (D := G.1) (ci := 0) (C := RX0) (T := TX0) (N := 9) hX.1 hX.2.1 hX.2.2.2.2.1 inX0 hX.2.2.2.1 hX.2.2.2.2.2.1 hP 1 rfl rfl 3 (by decide) (hX.2.2.2.2.1 _ hlk) (fun _ h => h) rfl hd (k H locs ls hP hS hl)
theorem ag_X0_itemFrom (hX : XC X G d own cc nL) {idx : Nat} (hlk : Cond.fieldLink own idx "FlueRounds$Draft" "itemFrom" "[I" ∈ gtbl) (hd : decode cc pc = .ok (.getfield idx, 3)) (k : AW X G (pc + 3) L (.ref (gad G 13) :: st) S) : AW X G pc L (.ref (gad G 1) :: st) S := by
  obtain ⟨p, l, e, R, s, m, args, below, meth, c, cells, slots, Q, A⟩ := X
  exact fun H locs ls hP hS hl => va_get (D := G.1) (ci := 0) (C := RX0) (T := TX0) (N := 9) hX.1 hX.2.1 hX.2.2.2.2.1 inX0 hX.2.2.2.1 hX.2.2.2.2.2.1 hP 1 rfl rfl 4 (by decide) (hX.2.2.2.2.1 _ hlk) (fun _ h => h) rfl hd (k H locs ls hP hS hl)
theorem ag_X0_items (hX : XC X G d own cc nL) {idx : Nat} (hlk : Cond.fieldLink own idx "FlueRounds$Draft" "items" "I" ∈ gtbl) (hd : decode cc pc = .ok (.getfield idx, 3)) (k : AW X G (pc + 3) L (.int (nI (S.1 3)) :: st) S) : AW X G pc L (.ref (gad G 1) :: st) S := by
  obtain ⟨p, l, e, R, s, m, args, below, meth, c, cells, slots, Q, A⟩ := X
  exact fun H locs ls hP hS hl => va_get (D := G.1) (ci := 0) (C := RX0) (T := TX0) (N := 9) hX.1 hX.2.1 hX.2.2.2.2.1 inX0 hX.2.2.2.1 hX.2.2.2.2.2.1 hP 1 rfl rfl 5 (by decide) (hX.2.2.2.2.1 _ hlk) (fun _ h => h) rfl hd (k H locs ls hP hS hl)
theorem ap_X0_items (hX : XC X G d own cc nL) {v : Nat} {idx : Nat} (hlk : Cond.fieldLink own idx "FlueRounds$Draft" "items" "I" ∈ gtbl) (hd : decode cc pc = .ok (.putfield idx, 3)) (k : AW X G (pc + 3) L st (sN S 3 v)) : AW X G pc L (.int (nI v) :: .ref (gad G 1) :: st) S := by
  obtain ⟨p, l, e, R, s, m, args, below, meth, c, cells, slots, Q, A⟩ := X
  exact fun H locs ls hP hS hl => va_put (D := G.1) (ci := 0) (C := RX0) (T := TX0) (N := 9) (v := .int (nI v)) (ty := .int) hX.1 hX.2.1 hX.2.2.2.2.1 inX0 tyX0 tyX0_ok nmX0 hX.2.2.2.1 hX.2.2.2.2.2.1 hP (gws_D hX.2.2.2.2.2.2.1 hX.2.2.2.2.2.2.2.1) hS 1 rfl rfl 5 (by decide) (hX.2.2.2.2.1 _ hlk) (fun _ h => h) rfl (by decide +kernel) rfl rfl (Nat.le_of_ble_eq_true rfl) hd (fun H1 locs1 hP1 _ hS1 => k H1 locs1 ls hP1 hS1 hl)
theorem ag_X0_place (hX : XC X G d own cc nL) {idx : Nat} (hlk : Cond.fieldLink own idx "FlueRounds$Draft" "place" "I" ∈ gtbl) (hd : decode cc pc = .ok (.getfield idx, 3)) (k : AW X G (pc + 3) L (.int (nI (S.1 4)) :: st) S) : AW X G pc L (.ref (gad G 1) :: st) S := by
  obtain ⟨p, l, e, R, s, m, args, below, meth, c, cells, slots, Q, A⟩ := X
  exact fun H locs ls hP hS hl => va_get (D := G.1) (ci := 0) (C := RX0) (T := TX0) (N := 9) hX.1 hX.2.1 hX.2.2.2.2.1 inX0 hX.2.2.2.1 hX.2.2.2.2.2.1 hP 1 rfl rfl 6 (by decide) (hX.2.2.2.2.1 _ hlk) (fun _ h => h) rfl hd (k H locs ls hP hS hl)
theorem ap_X0_place (hX : XC X G d own cc nL) {v : Nat} {idx : Nat} (hlk : Cond.fieldLink own idx "FlueRounds$Draft" "place" "I" ∈ gtbl) (hd : decode cc pc = .ok (.putfield idx, 3)) (k : AW X G (pc + 3) L st (sN S 4 v)) : AW X G pc L (.int (nI v) :: .ref (gad G 1) :: st) S := by
  obtain ⟨p, l, e, R, s, m, args, below, meth, c, cells, slots, Q, A⟩ := X
  exact fun H locs ls hP hS hl => va_put (D := G.1) (ci := 0) (C := RX0) (T := TX0) (N := 9) (v := .int (nI v)) (ty := .int) hX.1 hX.2.1 hX.2.2.2.2.1 inX0 tyX0 tyX0_ok nmX0 hX.2.2.2.1 hX.2.2.2.2.2.1 hP (gws_D hX.2.2.2.2.2.2.1 hX.2.2.2.2.2.2.2.1) hS 1 rfl rfl 6 (by decide) (hX.2.2.2.2.1 _ hlk) (fun _ h => h) rfl (by decide +kernel) rfl rfl (Nat.le_of_ble_eq_true rfl) hd (fun H1 locs1 hP1 _ hS1 => k H1 locs1 ls hP1 hS1 hl)
theorem ag_X0_number (hX : XC X G d own cc nL) {idx : Nat} (hlk : Cond.fieldLink own idx "FlueRounds$Draft" "number" "I" ∈ gtbl) (hd : decode cc pc = .ok (.getfield idx, 3)) (k : AW X G (pc + 3) L (.int (S.2.2.2 0) :: st) S) : AW X G pc L (.ref (gad G 1) :: st) S := by
  obtain ⟨p, l, e, R, s, m, args, below, meth, c, cells, slots, Q, A⟩ := X
  exact fun H locs ls hP hS hl => va_get (D := G.1) (ci := 0) (C := RX0) (T := TX0) (N := 9) hX.1 hX.2.1 hX.2.2.2.2.1 inX0 hX.2.2.2.1 hX.2.2.2.2.2.1 hP 1 rfl rfl 7 (by decide) (hX.2.2.2.2.1 _ hlk) (fun _ h => h) rfl hd (k H locs ls hP hS hl)
theorem ap_X0_number (hX : XC X G d own cc nL) {v : Int32} {idx : Nat} (hlk : Cond.fieldLink own idx "FlueRounds$Draft" "number" "I" ∈ gtbl) (hd : decode cc pc = .ok (.putfield idx, 3)) (k : AW X G (pc + 3) L st (sR S 0 v)) : AW X G pc L (.int v :: .ref (gad G 1) :: st) S := by
  obtain ⟨p, l, e, R, s, m, args, below, meth, c, cells, slots, Q, A⟩ := X
  exact fun H locs ls hP hS hl => va_put (D := G.1) (ci := 0) (C := RX0) (T := TX0) (N := 9) (v := .int v) (ty := .int) hX.1 hX.2.1 hX.2.2.2.2.1 inX0 tyX0 tyX0_ok nmX0 hX.2.2.2.1 hX.2.2.2.2.2.1 hP (gws_D hX.2.2.2.2.2.2.1 hX.2.2.2.2.2.2.2.1) hS 1 rfl rfl 7 (by decide) (hX.2.2.2.2.1 _ hlk) (fun _ h => h) rfl (by decide +kernel) rfl rfl (Nat.le_of_ble_eq_true rfl) hd (fun H1 locs1 hP1 _ hS1 => k H1 locs1 ls hP1 hS1 hl)
theorem ag_X0_from (hX : XC X G d own cc nL) {idx : Nat} (hlk : Cond.fieldLink own idx "FlueRounds$Draft" "from" "I" ∈ gtbl) (hd : decode cc pc = .ok (.getfield idx, 3)) (k : AW X G (pc + 3) L (.int (nI (S.1 5)) :: st) S) : AW X G pc L (.ref (gad G 1) :: st) S := by
  obtain ⟨p, l, e, R, s, m, args, below, meth, c, cells, slots, Q, A⟩ := X
  exact fun H locs ls hP hS hl => va_get (D := G.1) (ci := 0) (C := RX0) (T := TX0) (N := 9) hX.1 hX.2.1 hX.2.2.2.2.1 inX0 hX.2.2.2.1 hX.2.2.2.2.2.1 hP 1 rfl rfl 8 (by decide) (hX.2.2.2.2.1 _ hlk) (fun _ h => h) rfl hd (k H locs ls hP hS hl)
theorem ap_X0_from (hX : XC X G d own cc nL) {v : Nat} {idx : Nat} (hlk : Cond.fieldLink own idx "FlueRounds$Draft" "from" "I" ∈ gtbl) (hd : decode cc pc = .ok (.putfield idx, 3)) (k : AW X G (pc + 3) L st (sN S 5 v)) : AW X G pc L (.int (nI v) :: .ref (gad G 1) :: st) S := by
  obtain ⟨p, l, e, R, s, m, args, below, meth, c, cells, slots, Q, A⟩ := X
  exact fun H locs ls hP hS hl => va_put (D := G.1) (ci := 0) (C := RX0) (T := TX0) (N := 9) (v := .int (nI v)) (ty := .int) hX.1 hX.2.1 hX.2.2.2.2.1 inX0 tyX0 tyX0_ok nmX0 hX.2.2.2.1 hX.2.2.2.2.2.1 hP (gws_D hX.2.2.2.2.2.2.1 hX.2.2.2.2.2.2.2.1) hS 1 rfl rfl 8 (by decide) (hX.2.2.2.2.1 _ hlk) (fun _ h => h) rfl (by decide +kernel) rfl rfl (Nat.le_of_ble_eq_true rfl) hd (fun H1 locs1 hP1 _ hS1 => k H1 locs1 ls hP1 hS1 hl)
theorem ag_X1_flue (hX : XC X G d own cc nL) {idx : Nat} (hlk : Cond.fieldLink own idx "FlueRounds$Fires" "flue" "[I" ∈ gtbl) (hd : decode cc pc = .ok (.getfield idx, 3)) (k : AW X G (pc + 3) L (.ref (gad G 34) :: st) S) : AW X G pc L (.ref (gad G 5) :: st) S := by
  obtain ⟨p, l, e, R, s, m, args, below, meth, c, cells, slots, Q, A⟩ := X
  exact fun H locs ls hP hS hl => va_get (D := G.1) (ci := 1) (C := RX1) (T := TX1) (N := 3) hX.1 hX.2.1 hX.2.2.2.2.1 inX1 hX.2.2.2.1 hX.2.2.2.2.2.1 hP 5 rfl rfl 0 (by decide) (hX.2.2.2.2.1 _ hlk) (fun _ h => h) rfl hd (k H locs ls hP hS hl)
theorem ag_X1_day (hX : XC X G d own cc nL) {idx : Nat} (hlk : Cond.fieldLink own idx "FlueRounds$Fires" "day" "[I" ∈ gtbl) (hd : decode cc pc = .ok (.getfield idx, 3)) (k : AW X G (pc + 3) L (.ref (gad G 35) :: st) S) : AW X G pc L (.ref (gad G 5) :: st) S := by
  obtain ⟨p, l, e, R, s, m, args, below, meth, c, cells, slots, Q, A⟩ := X
  exact fun H locs ls hP hS hl => va_get (D := G.1) (ci := 1) (C := RX1) (T := TX1) (N := 3) hX.1 hX.2.1 hX.2.2.2.2.1 inX1 hX.2.2.2.1 hX.2.2.2.2.2.1 hP 5 rfl rfl 1 (by decide) (hX.2.2.2.2.1 _ hlk) (fun _ h => h) rfl hd (k H locs ls hP hS hl)
theorem ag_X1_size (hX : XC X G d own cc nL) {idx : Nat} (hlk : Cond.fieldLink own idx "FlueRounds$Fires" "size" "I" ∈ gtbl) (hd : decode cc pc = .ok (.getfield idx, 3)) (k : AW X G (pc + 3) L (.int (nI (S.1 9)) :: st) S) : AW X G pc L (.ref (gad G 5) :: st) S := by
  obtain ⟨p, l, e, R, s, m, args, below, meth, c, cells, slots, Q, A⟩ := X
  exact fun H locs ls hP hS hl => va_get (D := G.1) (ci := 1) (C := RX1) (T := TX1) (N := 3) hX.1 hX.2.1 hX.2.2.2.2.1 inX1 hX.2.2.2.1 hX.2.2.2.2.2.1 hP 5 rfl rfl 2 (by decide) (hX.2.2.2.2.1 _ hlk) (fun _ h => h) rfl hd (k H locs ls hP hS hl)
theorem ap_X1_size (hX : XC X G d own cc nL) {v : Nat} {idx : Nat} (hlk : Cond.fieldLink own idx "FlueRounds$Fires" "size" "I" ∈ gtbl) (hd : decode cc pc = .ok (.putfield idx, 3)) (k : AW X G (pc + 3) L st (sN S 9 v)) : AW X G pc L (.int (nI v) :: .ref (gad G 5) :: st) S := by
  obtain ⟨p, l, e, R, s, m, args, below, meth, c, cells, slots, Q, A⟩ := X
  exact fun H locs ls hP hS hl => va_put (D := G.1) (ci := 1) (C := RX1) (T := TX1) (N := 3) (v := .int (nI v)) (ty := .int) hX.1 hX.2.1 hX.2.2.2.2.1 inX1 tyX1 tyX1_ok nmX1 hX.2.2.2.1 hX.2.2.2.2.2.1 hP (gws_D hX.2.2.2.2.2.2.1 hX.2.2.2.2.2.2.2.1) hS 5 rfl rfl 2 (by decide) (hX.2.2.2.2.1 _ hlk) (fun _ h => h) rfl (by decide +kernel) rfl rfl (Nat.le_of_ble_eq_true rfl) hd (fun H1 locs1 hP1 _ hS1 => k H1 locs1 ls hP1 hS1 hl)
theorem ag_X2_kind (hX : XC X G d own cc nL) {idx : Nat} (hlk : Cond.fieldLink own idx "FlueRounds$Flues" "kind" "[I" ∈ gtbl) (hd : decode cc pc = .ok (.getfield idx, 3)) (k : AW X G (pc + 3) L (.ref (gad G 19) :: st) S) : AW X G pc L (.ref (gad G 3) :: st) S := by
  obtain ⟨p, l, e, R, s, m, args, below, meth, c, cells, slots, Q, A⟩ := X
  exact fun H locs ls hP hS hl => va_get (D := G.1) (ci := 2) (C := RX2) (T := TX2) (N := 12) hX.1 hX.2.1 hX.2.2.2.2.1 inX2 hX.2.2.2.1 hX.2.2.2.2.2.1 hP 3 rfl rfl 0 (by decide) (hX.2.2.2.2.1 _ hlk) (fun _ h => h) rfl hd (k H locs ls hP hS hl)
theorem ag_X2_fuel (hX : XC X G d own cc nL) {idx : Nat} (hlk : Cond.fieldLink own idx "FlueRounds$Flues" "fuel" "[I" ∈ gtbl) (hd : decode cc pc = .ok (.getfield idx, 3)) (k : AW X G (pc + 3) L (.ref (gad G 20) :: st) S) : AW X G pc L (.ref (gad G 3) :: st) S := by
  obtain ⟨p, l, e, R, s, m, args, below, meth, c, cells, slots, Q, A⟩ := X
  exact fun H locs ls hP hS hl => va_get (D := G.1) (ci := 2) (C := RX2) (T := TX2) (N := 12) hX.1 hX.2.1 hX.2.2.2.2.1 inX2 hX.2.2.2.1 hX.2.2.2.2.2.1 hP 3 rfl rfl 1 (by decide) (hX.2.2.2.2.1 _ hlk) (fun _ h => h) rfl hd (k H locs ls hP hS hl)
theorem ag_X2_height (hX : XC X G d own cc nL) {idx : Nat} (hlk : Cond.fieldLink own idx "FlueRounds$Flues" "height" "[I" ∈ gtbl) (hd : decode cc pc = .ok (.getfield idx, 3)) (k : AW X G (pc + 3) L (.ref (gad G 21) :: st) S) : AW X G pc L (.ref (gad G 3) :: st) S := by
  obtain ⟨p, l, e, R, s, m, args, below, meth, c, cells, slots, Q, A⟩ := X
  exact fun H locs ls hP hS hl => va_get (D := G.1) (ci := 2) (C := RX2) (T := TX2) (N := 12) hX.1 hX.2.1 hX.2.2.2.2.1 inX2 hX.2.2.2.1 hX.2.2.2.2.2.1 hP 3 rfl rfl 2 (by decide) (hX.2.2.2.2.1 _ hlk) (fun _ h => h) rfl hd (k H locs ls hP hS hl)
theorem ag_X2_width (hX : XC X G d own cc nL) {idx : Nat} (hlk : Cond.fieldLink own idx "FlueRounds$Flues" "width" "[I" ∈ gtbl) (hd : decode cc pc = .ok (.getfield idx, 3)) (k : AW X G (pc + 3) L (.ref (gad G 22) :: st) S) : AW X G pc L (.ref (gad G 3) :: st) S := by
  obtain ⟨p, l, e, R, s, m, args, below, meth, c, cells, slots, Q, A⟩ := X
  exact fun H locs ls hP hS hl => va_get (D := G.1) (ci := 2) (C := RX2) (T := TX2) (N := 12) hX.1 hX.2.1 hX.2.2.2.2.1 inX2 hX.2.2.2.1 hX.2.2.2.2.2.1 hP 3 rfl rfl 3 (by decide) (hX.2.2.2.2.1 _ hlk) (fun _ h => h) rfl hd (k H locs ls hP hS hl)
theorem ag_X2_bends (hX : XC X G d own cc nL) {idx : Nat} (hlk : Cond.fieldLink own idx "FlueRounds$Flues" "bends" "[I" ∈ gtbl) (hd : decode cc pc = .ok (.getfield idx, 3)) (k : AW X G (pc + 3) L (.ref (gad G 23) :: st) S) : AW X G pc L (.ref (gad G 3) :: st) S := by
  obtain ⟨p, l, e, R, s, m, args, below, meth, c, cells, slots, Q, A⟩ := X
  exact fun H locs ls hP hS hl => va_get (D := G.1) (ci := 2) (C := RX2) (T := TX2) (N := 12) hX.1 hX.2.1 hX.2.2.2.2.1 inX2 hX.2.2.2.1 hX.2.2.2.2.2.1 hP 3 rfl rfl 4 (by decide) (hX.2.2.2.2.1 _ hlk) (fun _ h => h) rfl hd (k H locs ls hP hS hl)
theorem ag_X2_x (hX : XC X G d own cc nL) {idx : Nat} (hlk : Cond.fieldLink own idx "FlueRounds$Flues" "x" "[I" ∈ gtbl) (hd : decode cc pc = .ok (.getfield idx, 3)) (k : AW X G (pc + 3) L (.ref (gad G 24) :: st) S) : AW X G pc L (.ref (gad G 3) :: st) S := by
  obtain ⟨p, l, e, R, s, m, args, below, meth, c, cells, slots, Q, A⟩ := X
  exact fun H locs ls hP hS hl => va_get (D := G.1) (ci := 2) (C := RX2) (T := TX2) (N := 12) hX.1 hX.2.1 hX.2.2.2.2.1 inX2 hX.2.2.2.1 hX.2.2.2.2.2.1 hP 3 rfl rfl 5 (by decide) (hX.2.2.2.2.1 _ hlk) (fun _ h => h) rfl hd (k H locs ls hP hS hl)
theorem ag_X2_y (hX : XC X G d own cc nL) {idx : Nat} (hlk : Cond.fieldLink own idx "FlueRounds$Flues" "y" "[I" ∈ gtbl) (hd : decode cc pc = .ok (.getfield idx, 3)) (k : AW X G (pc + 3) L (.ref (gad G 25) :: st) S) : AW X G pc L (.ref (gad G 3) :: st) S := by
  obtain ⟨p, l, e, R, s, m, args, below, meth, c, cells, slots, Q, A⟩ := X
  exact fun H locs ls hP hS hl => va_get (D := G.1) (ci := 2) (C := RX2) (T := TX2) (N := 12) hX.1 hX.2.1 hX.2.2.2.2.1 inX2 hX.2.2.2.1 hX.2.2.2.2.2.1 hP 3 rfl rfl 6 (by decide) (hX.2.2.2.2.1 _ hlk) (fun _ h => h) rfl hd (k H locs ls hP hS hl)
theorem ag_X2_hand (hX : XC X G d own cc nL) {idx : Nat} (hlk : Cond.fieldLink own idx "FlueRounds$Flues" "hand" "[I" ∈ gtbl) (hd : decode cc pc = .ok (.getfield idx, 3)) (k : AW X G (pc + 3) L (.ref (gad G 26) :: st) S) : AW X G pc L (.ref (gad G 3) :: st) S := by
  obtain ⟨p, l, e, R, s, m, args, below, meth, c, cells, slots, Q, A⟩ := X
  exact fun H locs ls hP hS hl => va_get (D := G.1) (ci := 2) (C := RX2) (T := TX2) (N := 12) hX.1 hX.2.1 hX.2.2.2.2.1 inX2 hX.2.2.2.1 hX.2.2.2.2.2.1 hP 3 rfl rfl 7 (by decide) (hX.2.2.2.2.1 _ hlk) (fun _ h => h) rfl hd (k H locs ls hP hS hl)
theorem ag_X2_came (hX : XC X G d own cc nL) {idx : Nat} (hlk : Cond.fieldLink own idx "FlueRounds$Flues" "came" "[I" ∈ gtbl) (hd : decode cc pc = .ok (.getfield idx, 3)) (k : AW X G (pc + 3) L (.ref (gad G 27) :: st) S) : AW X G pc L (.ref (gad G 3) :: st) S := by
  obtain ⟨p, l, e, R, s, m, args, below, meth, c, cells, slots, Q, A⟩ := X
  exact fun H locs ls hP hS hl => va_get (D := G.1) (ci := 2) (C := RX2) (T := TX2) (N := 12) hX.1 hX.2.1 hX.2.2.2.2.1 inX2 hX.2.2.2.1 hX.2.2.2.2.2.1 hP 3 rfl rfl 8 (by decide) (hX.2.2.2.2.1 _ hlk) (fun _ h => h) rfl hd (k H locs ls hP hS hl)
theorem ag_X2_refusals (hX : XC X G d own cc nL) {idx : Nat} (hlk : Cond.fieldLink own idx "FlueRounds$Flues" "refusals" "[I" ∈ gtbl) (hd : decode cc pc = .ok (.getfield idx, 3)) (k : AW X G (pc + 3) L (.ref (gad G 28) :: st) S) : AW X G pc L (.ref (gad G 3) :: st) S := by
  obtain ⟨p, l, e, R, s, m, args, below, meth, c, cells, slots, Q, A⟩ := X
  exact fun H locs ls hP hS hl => va_get (D := G.1) (ci := 2) (C := RX2) (T := TX2) (N := 12) hX.1 hX.2.1 hX.2.2.2.2.1 inX2 hX.2.2.2.1 hX.2.2.2.2.2.1 hP 3 rfl rfl 9 (by decide) (hX.2.2.2.2.1 _ hlk) (fun _ h => h) rfl hd (k H locs ls hP hS hl)
theorem ag_X2_waiting (hX : XC X G d own cc nL) {idx : Nat} (hlk : Cond.fieldLink own idx "FlueRounds$Flues" "waiting" "[I" ∈ gtbl) (hd : decode cc pc = .ok (.getfield idx, 3)) (k : AW X G (pc + 3) L (.ref (gad G 29) :: st) S) : AW X G pc L (.ref (gad G 3) :: st) S := by
  obtain ⟨p, l, e, R, s, m, args, below, meth, c, cells, slots, Q, A⟩ := X
  exact fun H locs ls hP hS hl => va_get (D := G.1) (ci := 2) (C := RX2) (T := TX2) (N := 12) hX.1 hX.2.1 hX.2.2.2.2.1 inX2 hX.2.2.2.1 hX.2.2.2.2.2.1 hP 3 rfl rfl 10 (by decide) (hX.2.2.2.2.1 _ hlk) (fun _ h => h) rfl hd (k H locs ls hP hS hl)
theorem ag_X2_size (hX : XC X G d own cc nL) {idx : Nat} (hlk : Cond.fieldLink own idx "FlueRounds$Flues" "size" "I" ∈ gtbl) (hd : decode cc pc = .ok (.getfield idx, 3)) (k : AW X G (pc + 3) L (.int (nI (S.1 7)) :: st) S) : AW X G pc L (.ref (gad G 3) :: st) S := by
  obtain ⟨p, l, e, R, s, m, args, below, meth, c, cells, slots, Q, A⟩ := X
  exact fun H locs ls hP hS hl => va_get (D := G.1) (ci := 2) (C := RX2) (T := TX2) (N := 12) hX.1 hX.2.1 hX.2.2.2.2.1 inX2 hX.2.2.2.1 hX.2.2.2.2.2.1 hP 3 rfl rfl 11 (by decide) (hX.2.2.2.2.1 _ hlk) (fun _ h => h) rfl hd (k H locs ls hP hS hl)
theorem ap_X2_size (hX : XC X G d own cc nL) {v : Nat} {idx : Nat} (hlk : Cond.fieldLink own idx "FlueRounds$Flues" "size" "I" ∈ gtbl) (hd : decode cc pc = .ok (.putfield idx, 3)) (k : AW X G (pc + 3) L st (sN S 7 v)) : AW X G pc L (.int (nI v) :: .ref (gad G 3) :: st) S := by
  obtain ⟨p, l, e, R, s, m, args, below, meth, c, cells, slots, Q, A⟩ := X
  exact fun H locs ls hP hS hl => va_put (D := G.1) (ci := 2) (C := RX2) (T := TX2) (N := 12) (v := .int (nI v)) (ty := .int) hX.1 hX.2.1 hX.2.2.2.2.1 inX2 tyX2 tyX2_ok nmX2 hX.2.2.2.1 hX.2.2.2.2.2.1 hP (gws_D hX.2.2.2.2.2.2.1 hX.2.2.2.2.2.2.2.1) hS 3 rfl rfl 11 (by decide) (hX.2.2.2.2.1 _ hlk) (fun _ h => h) rfl (by decide +kernel) rfl rfl (Nat.le_of_ble_eq_true rfl) hd (fun H1 locs1 hP1 _ hS1 => k H1 locs1 ls hP1 hS1 hl)
theorem ag_X3_told (hX : XC X G d own cc nL) {idx : Nat} (hlk : Cond.fieldLink own idx "FlueRounds$LawBook" "told" "[I" ∈ gtbl) (hd : decode cc pc = .ok (.getfield idx, 3)) (k : AW X G (pc + 3) L (.ref (gad G 14) :: st) S) : AW X G pc L (.ref (gad G 2) :: st) S := by
  obtain ⟨p, l, e, R, s, m, args, below, meth, c, cells, slots, Q, A⟩ := X
  exact fun H locs ls hP hS hl => va_get (D := G.1) (ci := 3) (C := RX3) (T := TX3) (N := 6) hX.1 hX.2.1 hX.2.2.2.2.1 inX3 hX.2.2.2.1 hX.2.2.2.2.2.1 hP 2 rfl rfl 0 (by decide) (hX.2.2.2.2.1 _ hlk) (fun _ h => h) rfl hd (k H locs ls hP hS hl)
theorem ag_X3_start (hX : XC X G d own cc nL) {idx : Nat} (hlk : Cond.fieldLink own idx "FlueRounds$LawBook" "start" "[I" ∈ gtbl) (hd : decode cc pc = .ok (.getfield idx, 3)) (k : AW X G (pc + 3) L (.ref (gad G 15) :: st) S) : AW X G pc L (.ref (gad G 2) :: st) S := by
  obtain ⟨p, l, e, R, s, m, args, below, meth, c, cells, slots, Q, A⟩ := X
  exact fun H locs ls hP hS hl => va_get (D := G.1) (ci := 3) (C := RX3) (T := TX3) (N := 6) hX.1 hX.2.1 hX.2.2.2.2.1 inX3 hX.2.2.2.1 hX.2.2.2.2.2.1 hP 2 rfl rfl 1 (by decide) (hX.2.2.2.2.1 _ hlk) (fun _ h => h) rfl hd (k H locs ls hP hS hl)
theorem ag_X3_itemFuel (hX : XC X G d own cc nL) {idx : Nat} (hlk : Cond.fieldLink own idx "FlueRounds$LawBook" "itemFuel" "[I" ∈ gtbl) (hd : decode cc pc = .ok (.getfield idx, 3)) (k : AW X G (pc + 3) L (.ref (gad G 16) :: st) S) : AW X G pc L (.ref (gad G 2) :: st) S := by
  obtain ⟨p, l, e, R, s, m, args, below, meth, c, cells, slots, Q, A⟩ := X
  exact fun H locs ls hP hS hl => va_get (D := G.1) (ci := 3) (C := RX3) (T := TX3) (N := 6) hX.1 hX.2.1 hX.2.2.2.2.1 inX3 hX.2.2.2.1 hX.2.2.2.2.2.1 hP 2 rfl rfl 2 (by decide) (hX.2.2.2.2.1 _ hlk) (fun _ h => h) rfl hd (k H locs ls hP hS hl)
theorem ag_X3_itemSpan (hX : XC X G d own cc nL) {idx : Nat} (hlk : Cond.fieldLink own idx "FlueRounds$LawBook" "itemSpan" "[I" ∈ gtbl) (hd : decode cc pc = .ok (.getfield idx, 3)) (k : AW X G (pc + 3) L (.ref (gad G 17) :: st) S) : AW X G pc L (.ref (gad G 2) :: st) S := by
  obtain ⟨p, l, e, R, s, m, args, below, meth, c, cells, slots, Q, A⟩ := X
  exact fun H locs ls hP hS hl => va_get (D := G.1) (ci := 3) (C := RX3) (T := TX3) (N := 6) hX.1 hX.2.1 hX.2.2.2.2.1 inX3 hX.2.2.2.1 hX.2.2.2.2.2.1 hP 2 rfl rfl 3 (by decide) (hX.2.2.2.2.1 _ hlk) (fun _ h => h) rfl hd (k H locs ls hP hS hl)
theorem ag_X3_itemFrom (hX : XC X G d own cc nL) {idx : Nat} (hlk : Cond.fieldLink own idx "FlueRounds$LawBook" "itemFrom" "[I" ∈ gtbl) (hd : decode cc pc = .ok (.getfield idx, 3)) (k : AW X G (pc + 3) L (.ref (gad G 18) :: st) S) : AW X G pc L (.ref (gad G 2) :: st) S := by
  obtain ⟨p, l, e, R, s, m, args, below, meth, c, cells, slots, Q, A⟩ := X
  exact fun H locs ls hP hS hl => va_get (D := G.1) (ci := 3) (C := RX3) (T := TX3) (N := 6) hX.1 hX.2.1 hX.2.2.2.2.1 inX3 hX.2.2.2.1 hX.2.2.2.2.2.1 hP 2 rfl rfl 4 (by decide) (hX.2.2.2.2.1 _ hlk) (fun _ h => h) rfl hd (k H locs ls hP hS hl)
theorem ag_X3_size (hX : XC X G d own cc nL) {idx : Nat} (hlk : Cond.fieldLink own idx "FlueRounds$LawBook" "size" "I" ∈ gtbl) (hd : decode cc pc = .ok (.getfield idx, 3)) (k : AW X G (pc + 3) L (.int (nI (S.1 6)) :: st) S) : AW X G pc L (.ref (gad G 2) :: st) S := by
  obtain ⟨p, l, e, R, s, m, args, below, meth, c, cells, slots, Q, A⟩ := X
  exact fun H locs ls hP hS hl => va_get (D := G.1) (ci := 3) (C := RX3) (T := TX3) (N := 6) hX.1 hX.2.1 hX.2.2.2.2.1 inX3 hX.2.2.2.1 hX.2.2.2.2.2.1 hP 2 rfl rfl 5 (by decide) (hX.2.2.2.2.1 _ hlk) (fun _ h => h) rfl hd (k H locs ls hP hS hl)
theorem ap_X3_size (hX : XC X G d own cc nL) {v : Nat} {idx : Nat} (hlk : Cond.fieldLink own idx "FlueRounds$LawBook" "size" "I" ∈ gtbl) (hd : decode cc pc = .ok (.putfield idx, 3)) (k : AW X G (pc + 3) L st (sN S 6 v)) : AW X G pc L (.int (nI v) :: .ref (gad G 2) :: st) S := by
  obtain ⟨p, l, e, R, s, m, args, below, meth, c, cells, slots, Q, A⟩ := X
  exact fun H locs ls hP hS hl => va_put (D := G.1) (ci := 3) (C := RX3) (T := TX3) (N := 6) (v := .int (nI v)) (ty := .int) hX.1 hX.2.1 hX.2.2.2.2.1 inX3 tyX3 tyX3_ok nmX3 hX.2.2.2.1 hX.2.2.2.2.2.1 hP (gws_D hX.2.2.2.2.2.2.1 hX.2.2.2.2.2.2.2.1) hS 2 rfl rfl 5 (by decide) (hX.2.2.2.2.1 _ hlk) (fun _ h => h) rfl (by decide +kernel) rfl rfl (Nat.le_of_ble_eq_true rfl) hd (fun H1 locs1 hP1 _ hS1 => k H1 locs1 ls hP1 hS1 hl)
theorem ag_X4_flue (hX : XC X G d own cc nL) {idx : Nat} (hlk : Cond.fieldLink own idx "FlueRounds$Looks" "flue" "[I" ∈ gtbl) (hd : decode cc pc = .ok (.getfield idx, 3)) (k : AW X G (pc + 3) L (.ref (gad G 30) :: st) S) : AW X G pc L (.ref (gad G 4) :: st) S := by
  obtain ⟨p, l, e, R, s, m, args, below, meth, c, cells, slots, Q, A⟩ := X
  exact fun H locs ls hP hS hl => va_get (D := G.1) (ci := 4) (C := RX4) (T := TX4) (N := 5) hX.1 hX.2.1 hX.2.2.2.2.1 inX4 hX.2.2.2.1 hX.2.2.2.2.2.1 hP 4 rfl rfl 0 (by decide) (hX.2.2.2.2.1 _ hlk) (fun _ h => h) rfl hd (k H locs ls hP hS hl)
theorem ag_X4_day (hX : XC X G d own cc nL) {idx : Nat} (hlk : Cond.fieldLink own idx "FlueRounds$Looks" "day" "[I" ∈ gtbl) (hd : decode cc pc = .ok (.getfield idx, 3)) (k : AW X G (pc + 3) L (.ref (gad G 31) :: st) S) : AW X G pc L (.ref (gad G 4) :: st) S := by
  obtain ⟨p, l, e, R, s, m, args, below, meth, c, cells, slots, Q, A⟩ := X
  exact fun H locs ls hP hS hl => va_get (D := G.1) (ci := 4) (C := RX4) (T := TX4) (N := 5) hX.1 hX.2.1 hX.2.2.2.2.1 inX4 hX.2.2.2.1 hX.2.2.2.2.2.1 hP 4 rfl rfl 1 (by decide) (hX.2.2.2.2.1 _ hlk) (fun _ h => h) rfl hd (k H locs ls hP hS hl)
theorem ag_X4_told (hX : XC X G d own cc nL) {idx : Nat} (hlk : Cond.fieldLink own idx "FlueRounds$Looks" "told" "[I" ∈ gtbl) (hd : decode cc pc = .ok (.getfield idx, 3)) (k : AW X G (pc + 3) L (.ref (gad G 32) :: st) S) : AW X G pc L (.ref (gad G 4) :: st) S := by
  obtain ⟨p, l, e, R, s, m, args, below, meth, c, cells, slots, Q, A⟩ := X
  exact fun H locs ls hP hS hl => va_get (D := G.1) (ci := 4) (C := RX4) (T := TX4) (N := 5) hX.1 hX.2.1 hX.2.2.2.2.1 inX4 hX.2.2.2.1 hX.2.2.2.2.2.1 hP 4 rfl rfl 2 (by decide) (hX.2.2.2.2.1 _ hlk) (fun _ h => h) rfl hd (k H locs ls hP hS hl)
theorem ag_X4_finding (hX : XC X G d own cc nL) {idx : Nat} (hlk : Cond.fieldLink own idx "FlueRounds$Looks" "finding" "[I" ∈ gtbl) (hd : decode cc pc = .ok (.getfield idx, 3)) (k : AW X G (pc + 3) L (.ref (gad G 33) :: st) S) : AW X G pc L (.ref (gad G 4) :: st) S := by
  obtain ⟨p, l, e, R, s, m, args, below, meth, c, cells, slots, Q, A⟩ := X
  exact fun H locs ls hP hS hl => va_get (D := G.1) (ci := 4) (C := RX4) (T := TX4) (N := 5) hX.1 hX.2.1 hX.2.2.2.2.1 inX4 hX.2.2.2.1 hX.2.2.2.2.2.1 hP 4 rfl rfl 3 (by decide) (hX.2.2.2.2.1 _ hlk) (fun _ h => h) rfl hd (k H locs ls hP hS hl)
theorem ag_X4_size (hX : XC X G d own cc nL) {idx : Nat} (hlk : Cond.fieldLink own idx "FlueRounds$Looks" "size" "I" ∈ gtbl) (hd : decode cc pc = .ok (.getfield idx, 3)) (k : AW X G (pc + 3) L (.int (nI (S.1 8)) :: st) S) : AW X G pc L (.ref (gad G 4) :: st) S := by
  obtain ⟨p, l, e, R, s, m, args, below, meth, c, cells, slots, Q, A⟩ := X
  exact fun H locs ls hP hS hl => va_get (D := G.1) (ci := 4) (C := RX4) (T := TX4) (N := 5) hX.1 hX.2.1 hX.2.2.2.2.1 inX4 hX.2.2.2.1 hX.2.2.2.2.2.1 hP 4 rfl rfl 4 (by decide) (hX.2.2.2.2.1 _ hlk) (fun _ h => h) rfl hd (k H locs ls hP hS hl)
theorem ap_X4_size (hX : XC X G d own cc nL) {v : Nat} {idx : Nat} (hlk : Cond.fieldLink own idx "FlueRounds$Looks" "size" "I" ∈ gtbl) (hd : decode cc pc = .ok (.putfield idx, 3)) (k : AW X G (pc + 3) L st (sN S 8 v)) : AW X G pc L (.int (nI v) :: .ref (gad G 4) :: st) S := by
  obtain ⟨p, l, e, R, s, m, args, below, meth, c, cells, slots, Q, A⟩ := X
  exact fun H locs ls hP hS hl => va_put (D := G.1) (ci := 4) (C := RX4) (T := TX4) (N := 5) (v := .int (nI v)) (ty := .int) hX.1 hX.2.1 hX.2.2.2.2.1 inX4 tyX4 tyX4_ok nmX4 hX.2.2.2.1 hX.2.2.2.2.2.1 hP (gws_D hX.2.2.2.2.2.2.1 hX.2.2.2.2.2.2.2.1) hS 4 rfl rfl 4 (by decide) (hX.2.2.2.2.1 _ hlk) (fun _ h => h) rfl (by decide +kernel) rfl rfl (Nat.le_of_ble_eq_true rfl) hd (fun H1 locs1 hP1 _ hS1 => k H1 locs1 ls hP1 hS1 hl)
theorem ag_X5_flue (hX : XC X G d own cc nL) {idx : Nat} (hlk : Cond.fieldLink own idx "FlueRounds$Sweeps" "flue" "[I" ∈ gtbl) (hd : decode cc pc = .ok (.getfield idx, 3)) (k : AW X G (pc + 3) L (.ref (gad G 36) :: st) S) : AW X G pc L (.ref (gad G 6) :: st) S := by
  obtain ⟨p, l, e, R, s, m, args, below, meth, c, cells, slots, Q, A⟩ := X
  exact fun H locs ls hP hS hl => va_get (D := G.1) (ci := 5) (C := RX5) (T := TX5) (N := 5) hX.1 hX.2.1 hX.2.2.2.2.1 inX5 hX.2.2.2.1 hX.2.2.2.2.2.1 hP 6 rfl rfl 0 (by decide) (hX.2.2.2.2.1 _ hlk) (fun _ h => h) rfl hd (k H locs ls hP hS hl)
theorem ag_X5_day (hX : XC X G d own cc nL) {idx : Nat} (hlk : Cond.fieldLink own idx "FlueRounds$Sweeps" "day" "[I" ∈ gtbl) (hd : decode cc pc = .ok (.getfield idx, 3)) (k : AW X G (pc + 3) L (.ref (gad G 37) :: st) S) : AW X G pc L (.ref (gad G 6) :: st) S := by
  obtain ⟨p, l, e, R, s, m, args, below, meth, c, cells, slots, Q, A⟩ := X
  exact fun H locs ls hP hS hl => va_get (D := G.1) (ci := 5) (C := RX5) (T := TX5) (N := 5) hX.1 hX.2.1 hX.2.2.2.2.1 inX5 hX.2.2.2.1 hX.2.2.2.2.2.1 hP 6 rfl rfl 1 (by decide) (hX.2.2.2.2.1 _ hlk) (fun _ h => h) rfl hd (k H locs ls hP hS hl)
theorem ag_X5_hand (hX : XC X G d own cc nL) {idx : Nat} (hlk : Cond.fieldLink own idx "FlueRounds$Sweeps" "hand" "[I" ∈ gtbl) (hd : decode cc pc = .ok (.getfield idx, 3)) (k : AW X G (pc + 3) L (.ref (gad G 38) :: st) S) : AW X G pc L (.ref (gad G 6) :: st) S := by
  obtain ⟨p, l, e, R, s, m, args, below, meth, c, cells, slots, Q, A⟩ := X
  exact fun H locs ls hP hS hl => va_get (D := G.1) (ci := 5) (C := RX5) (T := TX5) (N := 5) hX.1 hX.2.1 hX.2.2.2.2.1 inX5 hX.2.2.2.1 hX.2.2.2.2.2.1 hP 6 rfl rfl 2 (by decide) (hX.2.2.2.2.1 _ hlk) (fun _ h => h) rfl hd (k H locs ls hP hS hl)
theorem ag_X5_fee (hX : XC X G d own cc nL) {idx : Nat} (hlk : Cond.fieldLink own idx "FlueRounds$Sweeps" "fee" "[I" ∈ gtbl) (hd : decode cc pc = .ok (.getfield idx, 3)) (k : AW X G (pc + 3) L (.ref (gad G 39) :: st) S) : AW X G pc L (.ref (gad G 6) :: st) S := by
  obtain ⟨p, l, e, R, s, m, args, below, meth, c, cells, slots, Q, A⟩ := X
  exact fun H locs ls hP hS hl => va_get (D := G.1) (ci := 5) (C := RX5) (T := TX5) (N := 5) hX.1 hX.2.1 hX.2.2.2.2.1 inX5 hX.2.2.2.1 hX.2.2.2.2.2.1 hP 6 rfl rfl 3 (by decide) (hX.2.2.2.2.1 _ hlk) (fun _ h => h) rfl hd (k H locs ls hP hS hl)
theorem ag_X5_size (hX : XC X G d own cc nL) {idx : Nat} (hlk : Cond.fieldLink own idx "FlueRounds$Sweeps" "size" "I" ∈ gtbl) (hd : decode cc pc = .ok (.getfield idx, 3)) (k : AW X G (pc + 3) L (.int (nI (S.1 10)) :: st) S) : AW X G pc L (.ref (gad G 6) :: st) S := by
  obtain ⟨p, l, e, R, s, m, args, below, meth, c, cells, slots, Q, A⟩ := X
  exact fun H locs ls hP hS hl => va_get (D := G.1) (ci := 5) (C := RX5) (T := TX5) (N := 5) hX.1 hX.2.1 hX.2.2.2.2.1 inX5 hX.2.2.2.1 hX.2.2.2.2.2.1 hP 6 rfl rfl 4 (by decide) (hX.2.2.2.2.1 _ hlk) (fun _ h => h) rfl hd (k H locs ls hP hS hl)
theorem ap_X5_size (hX : XC X G d own cc nL) {v : Nat} {idx : Nat} (hlk : Cond.fieldLink own idx "FlueRounds$Sweeps" "size" "I" ∈ gtbl) (hd : decode cc pc = .ok (.putfield idx, 3)) (k : AW X G (pc + 3) L st (sN S 10 v)) : AW X G pc L (.int (nI v) :: .ref (gad G 6) :: st) S := by
  obtain ⟨p, l, e, R, s, m, args, below, meth, c, cells, slots, Q, A⟩ := X
  exact fun H locs ls hP hS hl => va_put (D := G.1) (ci := 5) (C := RX5) (T := TX5) (N := 5) (v := .int (nI v)) (ty := .int) hX.1 hX.2.1 hX.2.2.2.2.1 inX5 tyX5 tyX5_ok nmX5 hX.2.2.2.1 hX.2.2.2.2.2.1 hP (gws_D hX.2.2.2.2.2.2.1 hX.2.2.2.2.2.2.2.1) hS 6 rfl rfl 4 (by decide) (hX.2.2.2.2.1 _ hlk) (fun _ h => h) rfl (by decide +kernel) rfl rfl (Nat.le_of_ble_eq_true rfl) hd (fun H1 locs1 hP1 _ hS1 => k H1 locs1 ls hP1 hS1 hl)
theorem ag_X6_flue (hX : XC X G d own cc nL) {idx : Nat} (hlk : Cond.fieldLink own idx "FlueRounds$Tour" "flue" "[I" ∈ gtbl) (hd : decode cc pc = .ok (.getfield idx, 3)) (k : AW X G (pc + 3) L (.ref (gad G 40) :: st) S) : AW X G pc L (.ref (gad G 7) :: st) S := by
  obtain ⟨p, l, e, R, s, m, args, below, meth, c, cells, slots, Q, A⟩ := X
  exact fun H locs ls hP hS hl => va_get (D := G.1) (ci := 6) (C := RX6) (T := TX6) (N := 8) hX.1 hX.2.1 hX.2.2.2.2.1 inX6 hX.2.2.2.1 hX.2.2.2.2.2.1 hP 7 rfl rfl 0 (by decide) (hX.2.2.2.2.1 _ hlk) (fun _ h => h) rfl hd (k H locs ls hP hS hl)
theorem ag_X6_x (hX : XC X G d own cc nL) {idx : Nat} (hlk : Cond.fieldLink own idx "FlueRounds$Tour" "x" "[I" ∈ gtbl) (hd : decode cc pc = .ok (.getfield idx, 3)) (k : AW X G (pc + 3) L (.ref (gad G 41) :: st) S) : AW X G pc L (.ref (gad G 7) :: st) S := by
  obtain ⟨p, l, e, R, s, m, args, below, meth, c, cells, slots, Q, A⟩ := X
  exact fun H locs ls hP hS hl => va_get (D := G.1) (ci := 6) (C := RX6) (T := TX6) (N := 8) hX.1 hX.2.1 hX.2.2.2.2.1 inX6 hX.2.2.2.1 hX.2.2.2.2.2.1 hP 7 rfl rfl 1 (by decide) (hX.2.2.2.2.1 _ hlk) (fun _ h => h) rfl hd (k H locs ls hP hS hl)
theorem ag_X6_y (hX : XC X G d own cc nL) {idx : Nat} (hlk : Cond.fieldLink own idx "FlueRounds$Tour" "y" "[I" ∈ gtbl) (hd : decode cc pc = .ok (.getfield idx, 3)) (k : AW X G (pc + 3) L (.ref (gad G 42) :: st) S) : AW X G pc L (.ref (gad G 7) :: st) S := by
  obtain ⟨p, l, e, R, s, m, args, below, meth, c, cells, slots, Q, A⟩ := X
  exact fun H locs ls hP hS hl => va_get (D := G.1) (ci := 6) (C := RX6) (T := TX6) (N := 8) hX.1 hX.2.1 hX.2.2.2.2.1 inX6 hX.2.2.2.1 hX.2.2.2.2.2.1 hP 7 rfl rfl 2 (by decide) (hX.2.2.2.2.1 _ hlk) (fun _ h => h) rfl hd (k H locs ls hP hS hl)
theorem ag_X6_passed (hX : XC X G d own cc nL) {idx : Nat} (hlk : Cond.fieldLink own idx "FlueRounds$Tour" "passed" "[Z" ∈ gtbl) (hd : decode cc pc = .ok (.getfield idx, 3)) (k : AW X G (pc + 3) L (.ref (gad G 43) :: st) S) : AW X G pc L (.ref (gad G 7) :: st) S := by
  obtain ⟨p, l, e, R, s, m, args, below, meth, c, cells, slots, Q, A⟩ := X
  exact fun H locs ls hP hS hl => va_get (D := G.1) (ci := 6) (C := RX6) (T := TX6) (N := 8) hX.1 hX.2.1 hX.2.2.2.2.1 inX6 hX.2.2.2.1 hX.2.2.2.2.2.1 hP 7 rfl rfl 3 (by decide) (hX.2.2.2.2.1 _ hlk) (fun _ h => h) rfl hd (k H locs ls hP hS hl)
theorem ag_X6_tried (hX : XC X G d own cc nL) {idx : Nat} (hlk : Cond.fieldLink own idx "FlueRounds$Tour" "tried" "[I" ∈ gtbl) (hd : decode cc pc = .ok (.getfield idx, 3)) (k : AW X G (pc + 3) L (.ref (gad G 44) :: st) S) : AW X G pc L (.ref (gad G 7) :: st) S := by
  obtain ⟨p, l, e, R, s, m, args, below, meth, c, cells, slots, Q, A⟩ := X
  exact fun H locs ls hP hS hl => va_get (D := G.1) (ci := 6) (C := RX6) (T := TX6) (N := 8) hX.1 hX.2.1 hX.2.2.2.2.1 inX6 hX.2.2.2.1 hX.2.2.2.2.2.1 hP 7 rfl rfl 4 (by decide) (hX.2.2.2.2.1 _ hlk) (fun _ h => h) rfl hd (k H locs ls hP hS hl)
theorem ag_X6_best (hX : XC X G d own cc nL) {idx : Nat} (hlk : Cond.fieldLink own idx "FlueRounds$Tour" "best" "[I" ∈ gtbl) (hd : decode cc pc = .ok (.getfield idx, 3)) (k : AW X G (pc + 3) L (.ref (gad G 45) :: st) S) : AW X G pc L (.ref (gad G 7) :: st) S := by
  obtain ⟨p, l, e, R, s, m, args, below, meth, c, cells, slots, Q, A⟩ := X
  exact fun H locs ls hP hS hl => va_get (D := G.1) (ci := 6) (C := RX6) (T := TX6) (N := 8) hX.1 hX.2.1 hX.2.2.2.2.1 inX6 hX.2.2.2.1 hX.2.2.2.2.2.1 hP 7 rfl rfl 5 (by decide) (hX.2.2.2.2.1 _ hlk) (fun _ h => h) rfl hd (k H locs ls hP hS hl)
theorem ag_X6_size (hX : XC X G d own cc nL) {idx : Nat} (hlk : Cond.fieldLink own idx "FlueRounds$Tour" "size" "I" ∈ gtbl) (hd : decode cc pc = .ok (.getfield idx, 3)) (k : AW X G (pc + 3) L (.int (nI (S.1 11)) :: st) S) : AW X G pc L (.ref (gad G 7) :: st) S := by
  obtain ⟨p, l, e, R, s, m, args, below, meth, c, cells, slots, Q, A⟩ := X
  exact fun H locs ls hP hS hl => va_get (D := G.1) (ci := 6) (C := RX6) (T := TX6) (N := 8) hX.1 hX.2.1 hX.2.2.2.2.1 inX6 hX.2.2.2.1 hX.2.2.2.2.2.1 hP 7 rfl rfl 6 (by decide) (hX.2.2.2.2.1 _ hlk) (fun _ h => h) rfl hd (k H locs ls hP hS hl)
theorem ap_X6_size (hX : XC X G d own cc nL) {v : Nat} {idx : Nat} (hlk : Cond.fieldLink own idx "FlueRounds$Tour" "size" "I" ∈ gtbl) (hd : decode cc pc = .ok (.putfield idx, 3)) (k : AW X G (pc + 3) L st (sN S 11 v)) : AW X G pc L (.int (nI v) :: .ref (gad G 7) :: st) S := by
  obtain ⟨p, l, e, R, s, m, args, below, meth, c, cells, slots, Q, A⟩ := X
  exact fun H locs ls hP hS hl => va_put (D := G.1) (ci := 6) (C := RX6) (T := TX6) (N := 8) (v := .int (nI v)) (ty := .int) hX.1 hX.2.1 hX.2.2.2.2.1 inX6 tyX6 tyX6_ok nmX6 hX.2.2.2.1 hX.2.2.2.2.2.1 hP (gws_D hX.2.2.2.2.2.2.1 hX.2.2.2.2.2.2.2.1) hS 7 rfl rfl 6 (by decide) (hX.2.2.2.2.1 _ hlk) (fun _ h => h) rfl (by decide +kernel) rfl rfl (Nat.le_of_ble_eq_true rfl) hd (fun H1 locs1 hP1 _ hS1 => k H1 locs1 ls hP1 hS1 hl)
theorem ag_X6_way (hX : XC X G d own cc nL) {idx : Nat} (hlk : Cond.fieldLink own idx "FlueRounds$Tour" "way" "I" ∈ gtbl) (hd : decode cc pc = .ok (.getfield idx, 3)) (k : AW X G (pc + 3) L (.int (nI (S.1 12)) :: st) S) : AW X G pc L (.ref (gad G 7) :: st) S := by
  obtain ⟨p, l, e, R, s, m, args, below, meth, c, cells, slots, Q, A⟩ := X
  exact fun H locs ls hP hS hl => va_get (D := G.1) (ci := 6) (C := RX6) (T := TX6) (N := 8) hX.1 hX.2.1 hX.2.2.2.2.1 inX6 hX.2.2.2.1 hX.2.2.2.2.2.1 hP 7 rfl rfl 7 (by decide) (hX.2.2.2.2.1 _ hlk) (fun _ h => h) rfl hd (k H locs ls hP hS hl)
theorem ap_X6_way (hX : XC X G d own cc nL) {v : Nat} {idx : Nat} (hlk : Cond.fieldLink own idx "FlueRounds$Tour" "way" "I" ∈ gtbl) (hd : decode cc pc = .ok (.putfield idx, 3)) (k : AW X G (pc + 3) L st (sN S 12 v)) : AW X G pc L (.int (nI v) :: .ref (gad G 7) :: st) S := by
  obtain ⟨p, l, e, R, s, m, args, below, meth, c, cells, slots, Q, A⟩ := X
  exact fun H locs ls hP hS hl => va_put (D := G.1) (ci := 6) (C := RX6) (T := TX6) (N := 8) (v := .int (nI v)) (ty := .int) hX.1 hX.2.1 hX.2.2.2.2.1 inX6 tyX6 tyX6_ok nmX6 hX.2.2.2.1 hX.2.2.2.2.2.1 hP (gws_D hX.2.2.2.2.2.2.1 hX.2.2.2.2.2.2.2.1) hS 7 rfl rfl 7 (by decide) (hX.2.2.2.2.1 _ hlk) (fun _ h => h) rfl (by decide +kernel) rfl rfl (Nat.le_of_ble_eq_true rfl) hd (fun H1 locs1 hP1 _ hS1 => k H1 locs1 ls hP1 hS1 hl)
theorem ag_X7_draft (hX : XC X G d own cc nL) {idx : Nat} (hlk : Cond.fieldLink own idx "FlueRounds" "draft" "LFlueRounds$Draft;" ∈ gtbl) (hd : decode cc pc = .ok (.getfield idx, 3)) (k : AW X G (pc + 3) L (.ref (gad G 1) :: st) S) : AW X G pc L (.ref (gad G 0) :: st) S := by
  obtain ⟨p, l, e, R, s, m, args, below, meth, c, cells, slots, Q, A⟩ := X
  exact fun H locs ls hP hS hl => va_get (D := G.1) (ci := 7) (C := RX7) (T := TX7) (N := 11) hX.1 hX.2.1 hX.2.2.2.2.1 inX7 hX.2.2.2.1 hX.2.2.2.2.2.1 hP 0 rfl rfl 0 (by decide) (hX.2.2.2.2.1 _ hlk) (fun _ h => h) rfl hd (k H locs ls hP hS hl)
theorem ag_X7_book (hX : XC X G d own cc nL) {idx : Nat} (hlk : Cond.fieldLink own idx "FlueRounds" "book" "LFlueRounds$LawBook;" ∈ gtbl) (hd : decode cc pc = .ok (.getfield idx, 3)) (k : AW X G (pc + 3) L (.ref (gad G 2) :: st) S) : AW X G pc L (.ref (gad G 0) :: st) S := by
  obtain ⟨p, l, e, R, s, m, args, below, meth, c, cells, slots, Q, A⟩ := X
  exact fun H locs ls hP hS hl => va_get (D := G.1) (ci := 7) (C := RX7) (T := TX7) (N := 11) hX.1 hX.2.1 hX.2.2.2.2.1 inX7 hX.2.2.2.1 hX.2.2.2.2.2.1 hP 0 rfl rfl 1 (by decide) (hX.2.2.2.2.1 _ hlk) (fun _ h => h) rfl hd (k H locs ls hP hS hl)
theorem ag_X7_flues (hX : XC X G d own cc nL) {idx : Nat} (hlk : Cond.fieldLink own idx "FlueRounds" "flues" "LFlueRounds$Flues;" ∈ gtbl) (hd : decode cc pc = .ok (.getfield idx, 3)) (k : AW X G (pc + 3) L (.ref (gad G 3) :: st) S) : AW X G pc L (.ref (gad G 0) :: st) S := by
  obtain ⟨p, l, e, R, s, m, args, below, meth, c, cells, slots, Q, A⟩ := X
  exact fun H locs ls hP hS hl => va_get (D := G.1) (ci := 7) (C := RX7) (T := TX7) (N := 11) hX.1 hX.2.1 hX.2.2.2.2.1 inX7 hX.2.2.2.1 hX.2.2.2.2.2.1 hP 0 rfl rfl 2 (by decide) (hX.2.2.2.2.1 _ hlk) (fun _ h => h) rfl hd (k H locs ls hP hS hl)
theorem ag_X7_looks (hX : XC X G d own cc nL) {idx : Nat} (hlk : Cond.fieldLink own idx "FlueRounds" "looks" "LFlueRounds$Looks;" ∈ gtbl) (hd : decode cc pc = .ok (.getfield idx, 3)) (k : AW X G (pc + 3) L (.ref (gad G 4) :: st) S) : AW X G pc L (.ref (gad G 0) :: st) S := by
  obtain ⟨p, l, e, R, s, m, args, below, meth, c, cells, slots, Q, A⟩ := X
  exact fun H locs ls hP hS hl => va_get (D := G.1) (ci := 7) (C := RX7) (T := TX7) (N := 11) hX.1 hX.2.1 hX.2.2.2.2.1 inX7 hX.2.2.2.1 hX.2.2.2.2.2.1 hP 0 rfl rfl 3 (by decide) (hX.2.2.2.2.1 _ hlk) (fun _ h => h) rfl hd (k H locs ls hP hS hl)
theorem ag_X7_fires (hX : XC X G d own cc nL) {idx : Nat} (hlk : Cond.fieldLink own idx "FlueRounds" "fires" "LFlueRounds$Fires;" ∈ gtbl) (hd : decode cc pc = .ok (.getfield idx, 3)) (k : AW X G (pc + 3) L (.ref (gad G 5) :: st) S) : AW X G pc L (.ref (gad G 0) :: st) S := by
  obtain ⟨p, l, e, R, s, m, args, below, meth, c, cells, slots, Q, A⟩ := X
  exact fun H locs ls hP hS hl => va_get (D := G.1) (ci := 7) (C := RX7) (T := TX7) (N := 11) hX.1 hX.2.1 hX.2.2.2.2.1 inX7 hX.2.2.2.1 hX.2.2.2.2.2.1 hP 0 rfl rfl 4 (by decide) (hX.2.2.2.2.1 _ hlk) (fun _ h => h) rfl hd (k H locs ls hP hS hl)
theorem ag_X7_sweeps (hX : XC X G d own cc nL) {idx : Nat} (hlk : Cond.fieldLink own idx "FlueRounds" "sweeps" "LFlueRounds$Sweeps;" ∈ gtbl) (hd : decode cc pc = .ok (.getfield idx, 3)) (k : AW X G (pc + 3) L (.ref (gad G 6) :: st) S) : AW X G pc L (.ref (gad G 0) :: st) S := by
  obtain ⟨p, l, e, R, s, m, args, below, meth, c, cells, slots, Q, A⟩ := X
  exact fun H locs ls hP hS hl => va_get (D := G.1) (ci := 7) (C := RX7) (T := TX7) (N := 11) hX.1 hX.2.1 hX.2.2.2.2.1 inX7 hX.2.2.2.1 hX.2.2.2.2.2.1 hP 0 rfl rfl 5 (by decide) (hX.2.2.2.2.1 _ hlk) (fun _ h => h) rfl hd (k H locs ls hP hS hl)
theorem ag_X7_tour (hX : XC X G d own cc nL) {idx : Nat} (hlk : Cond.fieldLink own idx "FlueRounds" "tour" "LFlueRounds$Tour;" ∈ gtbl) (hd : decode cc pc = .ok (.getfield idx, 3)) (k : AW X G (pc + 3) L (.ref (gad G 7) :: st) S) : AW X G pc L (.ref (gad G 0) :: st) S := by
  obtain ⟨p, l, e, R, s, m, args, below, meth, c, cells, slots, Q, A⟩ := X
  exact fun H locs ls hP hS hl => va_get (D := G.1) (ci := 7) (C := RX7) (T := TX7) (N := 11) hX.1 hX.2.1 hX.2.2.2.2.1 inX7 hX.2.2.2.1 hX.2.2.2.2.2.1 hP 0 rfl rfl 6 (by decide) (hX.2.2.2.2.1 _ hlk) (fun _ h => h) rfl hd (k H locs ls hP hS hl)
theorem ag_X7_handIsIll (hX : XC X G d own cc nL) {idx : Nat} (hlk : Cond.fieldLink own idx "FlueRounds" "handIsIll" "[Z" ∈ gtbl) (hd : decode cc pc = .ok (.getfield idx, 3)) (k : AW X G (pc + 3) L (.ref (gad G 9) :: st) S) : AW X G pc L (.ref (gad G 0) :: st) S := by
  obtain ⟨p, l, e, R, s, m, args, below, meth, c, cells, slots, Q, A⟩ := X
  exact fun H locs ls hP hS hl => va_get (D := G.1) (ci := 7) (C := RX7) (T := TX7) (N := 11) hX.1 hX.2.1 hX.2.2.2.2.1 inX7 hX.2.2.2.1 hX.2.2.2.2.2.1 hP 0 rfl rfl 7 (by decide) (hX.2.2.2.2.1 _ hlk) (fun _ h => h) rfl hd (k H locs ls hP hS hl)
theorem ag_X7_today (hX : XC X G d own cc nL) {idx : Nat} (hlk : Cond.fieldLink own idx "FlueRounds" "today" "I" ∈ gtbl) (hd : decode cc pc = .ok (.getfield idx, 3)) (k : AW X G (pc + 3) L (.int (nI (S.1 0)) :: st) S) : AW X G pc L (.ref (gad G 0) :: st) S := by
  obtain ⟨p, l, e, R, s, m, args, below, meth, c, cells, slots, Q, A⟩ := X
  exact fun H locs ls hP hS hl => va_get (D := G.1) (ci := 7) (C := RX7) (T := TX7) (N := 11) hX.1 hX.2.1 hX.2.2.2.2.1 inX7 hX.2.2.2.1 hX.2.2.2.2.2.1 hP 0 rfl rfl 8 (by decide) (hX.2.2.2.2.1 _ hlk) (fun _ h => h) rfl hd (k H locs ls hP hS hl)
theorem ap_X7_today (hX : XC X G d own cc nL) {v : Nat} {idx : Nat} (hlk : Cond.fieldLink own idx "FlueRounds" "today" "I" ∈ gtbl) (hd : decode cc pc = .ok (.putfield idx, 3)) (k : AW X G (pc + 3) L st (sN S 0 v)) : AW X G pc L (.int (nI v) :: .ref (gad G 0) :: st) S := by
  obtain ⟨p, l, e, R, s, m, args, below, meth, c, cells, slots, Q, A⟩ := X
  exact fun H locs ls hP hS hl => va_put (D := G.1) (ci := 7) (C := RX7) (T := TX7) (N := 11) (v := .int (nI v)) (ty := .int) hX.1 hX.2.1 hX.2.2.2.2.1 inX7 tyX7 tyX7_ok nmX7 hX.2.2.2.1 hX.2.2.2.2.2.1 hP (gws_D hX.2.2.2.2.2.2.1 hX.2.2.2.2.2.2.2.1) hS 0 rfl rfl 8 (by decide) (hX.2.2.2.2.1 _ hlk) (fun _ h => h) rfl (by decide +kernel) rfl rfl (Nat.le_of_ble_eq_true rfl) hd (fun H1 locs1 hP1 _ hS1 => k H1 locs1 ls hP1 hS1 hl)
theorem ag_X7_feeRate (hX : XC X G d own cc nL) {idx : Nat} (hlk : Cond.fieldLink own idx "FlueRounds" "feeRate" "I" ∈ gtbl) (hd : decode cc pc = .ok (.getfield idx, 3)) (k : AW X G (pc + 3) L (.int (nI (S.1 1)) :: st) S) : AW X G pc L (.ref (gad G 0) :: st) S := by
  obtain ⟨p, l, e, R, s, m, args, below, meth, c, cells, slots, Q, A⟩ := X
  exact fun H locs ls hP hS hl => va_get (D := G.1) (ci := 7) (C := RX7) (T := TX7) (N := 11) hX.1 hX.2.1 hX.2.2.2.2.1 inX7 hX.2.2.2.1 hX.2.2.2.2.2.1 hP 0 rfl rfl 9 (by decide) (hX.2.2.2.2.1 _ hlk) (fun _ h => h) rfl hd (k H locs ls hP hS hl)
theorem ap_X7_feeRate (hX : XC X G d own cc nL) {v : Nat} {idx : Nat} (hlk : Cond.fieldLink own idx "FlueRounds" "feeRate" "I" ∈ gtbl) (hd : decode cc pc = .ok (.putfield idx, 3)) (k : AW X G (pc + 3) L st (sN S 1 v)) : AW X G pc L (.int (nI v) :: .ref (gad G 0) :: st) S := by
  obtain ⟨p, l, e, R, s, m, args, below, meth, c, cells, slots, Q, A⟩ := X
  exact fun H locs ls hP hS hl => va_put (D := G.1) (ci := 7) (C := RX7) (T := TX7) (N := 11) (v := .int (nI v)) (ty := .int) hX.1 hX.2.1 hX.2.2.2.2.1 inX7 tyX7 tyX7_ok nmX7 hX.2.2.2.1 hX.2.2.2.2.2.1 hP (gws_D hX.2.2.2.2.2.2.1 hX.2.2.2.2.2.2.2.1) hS 0 rfl rfl 9 (by decide) (hX.2.2.2.2.1 _ hlk) (fun _ h => h) rfl (by decide +kernel) rfl rfl (Nat.le_of_ble_eq_true rfl) hd (fun H1 locs1 hP1 _ hS1 => k H1 locs1 ls hP1 hS1 hl)
theorem ag_X7_asked (hX : XC X G d own cc nL) {idx : Nat} (hlk : Cond.fieldLink own idx "FlueRounds" "asked" "J" ∈ gtbl) (hd : decode cc pc = .ok (.getfield idx, 3)) (k : AW X G (pc + 3) L (.long (S.2.2.1 0) :: st) S) : AW X G pc L (.ref (gad G 0) :: st) S := by
  obtain ⟨p, l, e, R, s, m, args, below, meth, c, cells, slots, Q, A⟩ := X
  exact fun H locs ls hP hS hl => va_get (D := G.1) (ci := 7) (C := RX7) (T := TX7) (N := 11) hX.1 hX.2.1 hX.2.2.2.2.1 inX7 hX.2.2.2.1 hX.2.2.2.2.2.1 hP 0 rfl rfl 10 (by decide) (hX.2.2.2.2.1 _ hlk) (fun _ h => h) rfl hd (k H locs ls hP hS hl)
theorem ap_X7_asked (hX : XC X G d own cc nL) {v : Int64} {idx : Nat} (hlk : Cond.fieldLink own idx "FlueRounds" "asked" "J" ∈ gtbl) (hd : decode cc pc = .ok (.putfield idx, 3)) (k : AW X G (pc + 3) L st (sL S 0 v)) : AW X G pc L (.long v :: .ref (gad G 0) :: st) S := by
  obtain ⟨p, l, e, R, s, m, args, below, meth, c, cells, slots, Q, A⟩ := X
  exact fun H locs ls hP hS hl => va_put (D := G.1) (ci := 7) (C := RX7) (T := TX7) (N := 11) (v := .long v) (ty := .long) hX.1 hX.2.1 hX.2.2.2.2.1 inX7 tyX7 tyX7_ok nmX7 hX.2.2.2.1 hX.2.2.2.2.2.1 hP (gws_D hX.2.2.2.2.2.2.1 hX.2.2.2.2.2.2.2.1) hS 0 rfl rfl 10 (by decide) (hX.2.2.2.2.1 _ hlk) (fun _ h => h) rfl (by decide +kernel) rfl rfl (Nat.le_of_ble_eq_true rfl) hd (fun H1 locs1 hP1 _ hS1 => k H1 locs1 ls hP1 hS1 hl)
theorem ag_X8_thrown (hX : XC X G d own cc nL) {idx : Nat} (hlk : Cond.fieldLink own idx "FlueRoundsModel" "thrown" "I" ∈ gtbl) (hd : decode cc pc = .ok (.getfield idx, 3)) (k : AW X G (pc + 3) L (.int (nI (S.1 13)) :: st) S) : AW X G pc L (.ref (gad G 8) :: st) S := by
  obtain ⟨p, l, e, R, s, m, args, below, meth, c, cells, slots, Q, A⟩ := X
  exact fun H locs ls hP hS hl => va_get (D := G.1) (ci := 8) (C := RX8) (T := TX8) (N := 27) hX.1 hX.2.1 hX.2.2.2.2.1 inX8 hX.2.2.2.1 hX.2.2.2.2.2.1 hP 8 rfl rfl 0 (by decide) (hX.2.2.2.2.1 _ hlk) (fun _ h => h) rfl hd (k H locs ls hP hS hl)
theorem ap_X8_thrown (hX : XC X G d own cc nL) {v : Nat} {idx : Nat} (hlk : Cond.fieldLink own idx "FlueRoundsModel" "thrown" "I" ∈ gtbl) (hd : decode cc pc = .ok (.putfield idx, 3)) (k : AW X G (pc + 3) L st (sN S 13 v)) : AW X G pc L (.int (nI v) :: .ref (gad G 8) :: st) S := by
  obtain ⟨p, l, e, R, s, m, args, below, meth, c, cells, slots, Q, A⟩ := X
  exact fun H locs ls hP hS hl => va_put (D := G.1) (ci := 8) (C := RX8) (T := TX8) (N := 27) (v := .int (nI v)) (ty := .int) hX.1 hX.2.1 hX.2.2.2.2.1 inX8 tyX8 tyX8_ok nmX8 hX.2.2.2.1 hX.2.2.2.2.2.1 hP (gws_D hX.2.2.2.2.2.2.1 hX.2.2.2.2.2.2.2.1) hS 8 rfl rfl 0 (by decide) (hX.2.2.2.2.1 _ hlk) (fun _ h => h) rfl (by decide +kernel) rfl rfl (Nat.le_of_ble_eq_true rfl) hd (fun H1 locs1 hP1 _ hS1 => k H1 locs1 ls hP1 hS1 hl)
theorem ag_X8_today (hX : XC X G d own cc nL) {idx : Nat} (hlk : Cond.fieldLink own idx "FlueRoundsModel" "today" "I" ∈ gtbl) (hd : decode cc pc = .ok (.getfield idx, 3)) (k : AW X G (pc + 3) L (.int (nI (S.1 14)) :: st) S) : AW X G pc L (.ref (gad G 8) :: st) S := by
  obtain ⟨p, l, e, R, s, m, args, below, meth, c, cells, slots, Q, A⟩ := X
  exact fun H locs ls hP hS hl => va_get (D := G.1) (ci := 8) (C := RX8) (T := TX8) (N := 27) hX.1 hX.2.1 hX.2.2.2.2.1 inX8 hX.2.2.2.1 hX.2.2.2.2.2.1 hP 8 rfl rfl 1 (by decide) (hX.2.2.2.2.1 _ hlk) (fun _ h => h) rfl hd (k H locs ls hP hS hl)
theorem ap_X8_today (hX : XC X G d own cc nL) {v : Nat} {idx : Nat} (hlk : Cond.fieldLink own idx "FlueRoundsModel" "today" "I" ∈ gtbl) (hd : decode cc pc = .ok (.putfield idx, 3)) (k : AW X G (pc + 3) L st (sN S 14 v)) : AW X G pc L (.int (nI v) :: .ref (gad G 8) :: st) S := by
  obtain ⟨p, l, e, R, s, m, args, below, meth, c, cells, slots, Q, A⟩ := X
  exact fun H locs ls hP hS hl => va_put (D := G.1) (ci := 8) (C := RX8) (T := TX8) (N := 27) (v := .int (nI v)) (ty := .int) hX.1 hX.2.1 hX.2.2.2.2.1 inX8 tyX8 tyX8_ok nmX8 hX.2.2.2.1 hX.2.2.2.2.2.1 hP (gws_D hX.2.2.2.2.2.2.1 hX.2.2.2.2.2.2.2.1) hS 8 rfl rfl 1 (by decide) (hX.2.2.2.2.1 _ hlk) (fun _ h => h) rfl (by decide +kernel) rfl rfl (Nat.le_of_ble_eq_true rfl) hd (fun H1 locs1 hP1 _ hS1 => k H1 locs1 ls hP1 hS1 hl)
theorem ag_X8_draft (hX : XC X G d own cc nL) {idx : Nat} (hlk : Cond.fieldLink own idx "FlueRoundsModel" "draft" "[I" ∈ gtbl) (hd : decode cc pc = .ok (.getfield idx, 3)) (k : AW X G (pc + 3) L (.ref (gad G 46) :: st) S) : AW X G pc L (.ref (gad G 8) :: st) S := by
  obtain ⟨p, l, e, R, s, m, args, below, meth, c, cells, slots, Q, A⟩ := X
  exact fun H locs ls hP hS hl => va_get (D := G.1) (ci := 8) (C := RX8) (T := TX8) (N := 27) hX.1 hX.2.1 hX.2.2.2.2.1 inX8 hX.2.2.2.1 hX.2.2.2.2.2.1 hP 8 rfl rfl 2 (by decide) (hX.2.2.2.2.1 _ hlk) (fun _ h => h) rfl hd (k H locs ls hP hS hl)
theorem ag_X8_drafted (hX : XC X G d own cc nL) {idx : Nat} (hlk : Cond.fieldLink own idx "FlueRoundsModel" "drafted" "I" ∈ gtbl) (hd : decode cc pc = .ok (.getfield idx, 3)) (k : AW X G (pc + 3) L (.int (nI (S.1 15)) :: st) S) : AW X G pc L (.ref (gad G 8) :: st) S := by
  obtain ⟨p, l, e, R, s, m, args, below, meth, c, cells, slots, Q, A⟩ := X
  exact fun H locs ls hP hS hl => va_get (D := G.1) (ci := 8) (C := RX8) (T := TX8) (N := 27) hX.1 hX.2.1 hX.2.2.2.2.1 inX8 hX.2.2.2.1 hX.2.2.2.2.2.1 hP 8 rfl rfl 3 (by decide) (hX.2.2.2.2.1 _ hlk) (fun _ h => h) rfl hd (k H locs ls hP hS hl)
theorem ap_X8_drafted (hX : XC X G d own cc nL) {v : Nat} {idx : Nat} (hlk : Cond.fieldLink own idx "FlueRoundsModel" "drafted" "I" ∈ gtbl) (hd : decode cc pc = .ok (.putfield idx, 3)) (k : AW X G (pc + 3) L st (sN S 15 v)) : AW X G pc L (.int (nI v) :: .ref (gad G 8) :: st) S := by
  obtain ⟨p, l, e, R, s, m, args, below, meth, c, cells, slots, Q, A⟩ := X
  exact fun H locs ls hP hS hl => va_put (D := G.1) (ci := 8) (C := RX8) (T := TX8) (N := 27) (v := .int (nI v)) (ty := .int) hX.1 hX.2.1 hX.2.2.2.2.1 inX8 tyX8 tyX8_ok nmX8 hX.2.2.2.1 hX.2.2.2.2.2.1 hP (gws_D hX.2.2.2.2.2.2.1 hX.2.2.2.2.2.2.2.1) hS 8 rfl rfl 3 (by decide) (hX.2.2.2.2.1 _ hlk) (fun _ h => h) rfl (by decide +kernel) rfl rfl (Nat.le_of_ble_eq_true rfl) hd (fun H1 locs1 hP1 _ hS1 => k H1 locs1 ls hP1 hS1 hl)
theorem ag_X8_laws (hX : XC X G d own cc nL) {idx : Nat} (hlk : Cond.fieldLink own idx "FlueRoundsModel" "laws" "I" ∈ gtbl) (hd : decode cc pc = .ok (.getfield idx, 3)) (k : AW X G (pc + 3) L (.int (nI (S.1 16)) :: st) S) : AW X G pc L (.ref (gad G 8) :: st) S := by
  obtain ⟨p, l, e, R, s, m, args, below, meth, c, cells, slots, Q, A⟩ := X
  exact fun H locs ls hP hS hl => va_get (D := G.1) (ci := 8) (C := RX8) (T := TX8) (N := 27) hX.1 hX.2.1 hX.2.2.2.2.1 inX8 hX.2.2.2.1 hX.2.2.2.2.2.1 hP 8 rfl rfl 4 (by decide) (hX.2.2.2.2.1 _ hlk) (fun _ h => h) rfl hd (k H locs ls hP hS hl)
theorem ap_X8_laws (hX : XC X G d own cc nL) {v : Nat} {idx : Nat} (hlk : Cond.fieldLink own idx "FlueRoundsModel" "laws" "I" ∈ gtbl) (hd : decode cc pc = .ok (.putfield idx, 3)) (k : AW X G (pc + 3) L st (sN S 16 v)) : AW X G pc L (.int (nI v) :: .ref (gad G 8) :: st) S := by
  obtain ⟨p, l, e, R, s, m, args, below, meth, c, cells, slots, Q, A⟩ := X
  exact fun H locs ls hP hS hl => va_put (D := G.1) (ci := 8) (C := RX8) (T := TX8) (N := 27) (v := .int (nI v)) (ty := .int) hX.1 hX.2.1 hX.2.2.2.2.1 inX8 tyX8 tyX8_ok nmX8 hX.2.2.2.1 hX.2.2.2.2.2.1 hP (gws_D hX.2.2.2.2.2.2.1 hX.2.2.2.2.2.2.2.1) hS 8 rfl rfl 4 (by decide) (hX.2.2.2.2.1 _ hlk) (fun _ h => h) rfl (by decide +kernel) rfl rfl (Nat.le_of_ble_eq_true rfl) hd (fun H1 locs1 hP1 _ hS1 => k H1 locs1 ls hP1 hS1 hl)
theorem ag_X8_lawOn (hX : XC X G d own cc nL) {idx : Nat} (hlk : Cond.fieldLink own idx "FlueRoundsModel" "lawOn" "[I" ∈ gtbl) (hd : decode cc pc = .ok (.getfield idx, 3)) (k : AW X G (pc + 3) L (.ref (gad G 47) :: st) S) : AW X G pc L (.ref (gad G 8) :: st) S := by
  obtain ⟨p, l, e, R, s, m, args, below, meth, c, cells, slots, Q, A⟩ := X
  exact fun H locs ls hP hS hl => va_get (D := G.1) (ci := 8) (C := RX8) (T := TX8) (N := 27) hX.1 hX.2.1 hX.2.2.2.2.1 inX8 hX.2.2.2.1 hX.2.2.2.2.2.1 hP 8 rfl rfl 5 (by decide) (hX.2.2.2.2.1 _ hlk) (fun _ h => h) rfl hd (k H locs ls hP hS hl)
theorem ag_X8_begins (hX : XC X G d own cc nL) {idx : Nat} (hlk : Cond.fieldLink own idx "FlueRoundsModel" "begins" "[I" ∈ gtbl) (hd : decode cc pc = .ok (.getfield idx, 3)) (k : AW X G (pc + 3) L (.ref (gad G 48) :: st) S) : AW X G pc L (.ref (gad G 8) :: st) S := by
  obtain ⟨p, l, e, R, s, m, args, below, meth, c, cells, slots, Q, A⟩ := X
  exact fun H locs ls hP hS hl => va_get (D := G.1) (ci := 8) (C := RX8) (T := TX8) (N := 27) hX.1 hX.2.1 hX.2.2.2.2.1 inX8 hX.2.2.2.1 hX.2.2.2.2.2.1 hP 8 rfl rfl 6 (by decide) (hX.2.2.2.2.1 _ hlk) (fun _ h => h) rfl hd (k H locs ls hP hS hl)
theorem ag_X8_fuelOf (hX : XC X G d own cc nL) {idx : Nat} (hlk : Cond.fieldLink own idx "FlueRoundsModel" "fuelOf" "[I" ∈ gtbl) (hd : decode cc pc = .ok (.getfield idx, 3)) (k : AW X G (pc + 3) L (.ref (gad G 49) :: st) S) : AW X G pc L (.ref (gad G 8) :: st) S := by
  obtain ⟨p, l, e, R, s, m, args, below, meth, c, cells, slots, Q, A⟩ := X
  exact fun H locs ls hP hS hl => va_get (D := G.1) (ci := 8) (C := RX8) (T := TX8) (N := 27) hX.1 hX.2.1 hX.2.2.2.2.1 inX8 hX.2.2.2.1 hX.2.2.2.2.2.1 hP 8 rfl rfl 7 (by decide) (hX.2.2.2.2.1 _ hlk) (fun _ h => h) rfl hd (k H locs ls hP hS hl)
theorem ag_X8_spanOf (hX : XC X G d own cc nL) {idx : Nat} (hlk : Cond.fieldLink own idx "FlueRoundsModel" "spanOf" "[I" ∈ gtbl) (hd : decode cc pc = .ok (.getfield idx, 3)) (k : AW X G (pc + 3) L (.ref (gad G 50) :: st) S) : AW X G pc L (.ref (gad G 8) :: st) S := by
  obtain ⟨p, l, e, R, s, m, args, below, meth, c, cells, slots, Q, A⟩ := X
  exact fun H locs ls hP hS hl => va_get (D := G.1) (ci := 8) (C := RX8) (T := TX8) (N := 27) hX.1 hX.2.1 hX.2.2.2.2.1 inX8 hX.2.2.2.1 hX.2.2.2.2.2.1 hP 8 rfl rfl 8 (by decide) (hX.2.2.2.2.1 _ hlk) (fun _ h => h) rfl hd (k H locs ls hP hS hl)
theorem ag_X8_fromOf (hX : XC X G d own cc nL) {idx : Nat} (hlk : Cond.fieldLink own idx "FlueRoundsModel" "fromOf" "[I" ∈ gtbl) (hd : decode cc pc = .ok (.getfield idx, 3)) (k : AW X G (pc + 3) L (.ref (gad G 51) :: st) S) : AW X G pc L (.ref (gad G 8) :: st) S := by
  obtain ⟨p, l, e, R, s, m, args, below, meth, c, cells, slots, Q, A⟩ := X
  exact fun H locs ls hP hS hl => va_get (D := G.1) (ci := 8) (C := RX8) (T := TX8) (N := 27) hX.1 hX.2.1 hX.2.2.2.2.1 inX8 hX.2.2.2.1 hX.2.2.2.2.2.1 hP 8 rfl rfl 9 (by decide) (hX.2.2.2.2.1 _ hlk) (fun _ h => h) rfl hd (k H locs ls hP hS hl)
theorem ag_X8_items (hX : XC X G d own cc nL) {idx : Nat} (hlk : Cond.fieldLink own idx "FlueRoundsModel" "items" "I" ∈ gtbl) (hd : decode cc pc = .ok (.getfield idx, 3)) (k : AW X G (pc + 3) L (.int (nI (S.1 17)) :: st) S) : AW X G pc L (.ref (gad G 8) :: st) S := by
  obtain ⟨p, l, e, R, s, m, args, below, meth, c, cells, slots, Q, A⟩ := X
  exact fun H locs ls hP hS hl => va_get (D := G.1) (ci := 8) (C := RX8) (T := TX8) (N := 27) hX.1 hX.2.1 hX.2.2.2.2.1 inX8 hX.2.2.2.1 hX.2.2.2.2.2.1 hP 8 rfl rfl 10 (by decide) (hX.2.2.2.2.1 _ hlk) (fun _ h => h) rfl hd (k H locs ls hP hS hl)
theorem ap_X8_items (hX : XC X G d own cc nL) {v : Nat} {idx : Nat} (hlk : Cond.fieldLink own idx "FlueRoundsModel" "items" "I" ∈ gtbl) (hd : decode cc pc = .ok (.putfield idx, 3)) (k : AW X G (pc + 3) L st (sN S 17 v)) : AW X G pc L (.int (nI v) :: .ref (gad G 8) :: st) S := by
  obtain ⟨p, l, e, R, s, m, args, below, meth, c, cells, slots, Q, A⟩ := X
  exact fun H locs ls hP hS hl => va_put (D := G.1) (ci := 8) (C := RX8) (T := TX8) (N := 27) (v := .int (nI v)) (ty := .int) hX.1 hX.2.1 hX.2.2.2.2.1 inX8 tyX8 tyX8_ok nmX8 hX.2.2.2.1 hX.2.2.2.2.2.1 hP (gws_D hX.2.2.2.2.2.2.1 hX.2.2.2.2.2.2.2.1) hS 8 rfl rfl 10 (by decide) (hX.2.2.2.2.1 _ hlk) (fun _ h => h) rfl (by decide +kernel) rfl rfl (Nat.le_of_ble_eq_true rfl) hd (fun H1 locs1 hP1 _ hS1 => k H1 locs1 ls hP1 hS1 hl)
theorem ag_X8_flues (hX : XC X G d own cc nL) {idx : Nat} (hlk : Cond.fieldLink own idx "FlueRoundsModel" "flues" "I" ∈ gtbl) (hd : decode cc pc = .ok (.getfield idx, 3)) (k : AW X G (pc + 3) L (.int (nI (S.1 18)) :: st) S) : AW X G pc L (.ref (gad G 8) :: st) S := by
  obtain ⟨p, l, e, R, s, m, args, below, meth, c, cells, slots, Q, A⟩ := X
  exact fun H locs ls hP hS hl => va_get (D := G.1) (ci := 8) (C := RX8) (T := TX8) (N := 27) hX.1 hX.2.1 hX.2.2.2.2.1 inX8 hX.2.2.2.1 hX.2.2.2.2.2.1 hP 8 rfl rfl 11 (by decide) (hX.2.2.2.2.1 _ hlk) (fun _ h => h) rfl hd (k H locs ls hP hS hl)
theorem ap_X8_flues (hX : XC X G d own cc nL) {v : Nat} {idx : Nat} (hlk : Cond.fieldLink own idx "FlueRoundsModel" "flues" "I" ∈ gtbl) (hd : decode cc pc = .ok (.putfield idx, 3)) (k : AW X G (pc + 3) L st (sN S 18 v)) : AW X G pc L (.int (nI v) :: .ref (gad G 8) :: st) S := by
  obtain ⟨p, l, e, R, s, m, args, below, meth, c, cells, slots, Q, A⟩ := X
  exact fun H locs ls hP hS hl => va_put (D := G.1) (ci := 8) (C := RX8) (T := TX8) (N := 27) (v := .int (nI v)) (ty := .int) hX.1 hX.2.1 hX.2.2.2.2.1 inX8 tyX8 tyX8_ok nmX8 hX.2.2.2.1 hX.2.2.2.2.2.1 hP (gws_D hX.2.2.2.2.2.2.1 hX.2.2.2.2.2.2.2.1) hS 8 rfl rfl 11 (by decide) (hX.2.2.2.2.1 _ hlk) (fun _ h => h) rfl (by decide +kernel) rfl rfl (Nat.le_of_ble_eq_true rfl) hd (fun H1 locs1 hP1 _ hS1 => k H1 locs1 ls hP1 hS1 hl)
theorem ag_X8_flue (hX : XC X G d own cc nL) {idx : Nat} (hlk : Cond.fieldLink own idx "FlueRoundsModel" "flue" "[I" ∈ gtbl) (hd : decode cc pc = .ok (.getfield idx, 3)) (k : AW X G (pc + 3) L (.ref (gad G 52) :: st) S) : AW X G pc L (.ref (gad G 8) :: st) S := by
  obtain ⟨p, l, e, R, s, m, args, below, meth, c, cells, slots, Q, A⟩ := X
  exact fun H locs ls hP hS hl => va_get (D := G.1) (ci := 8) (C := RX8) (T := TX8) (N := 27) hX.1 hX.2.1 hX.2.2.2.2.1 inX8 hX.2.2.2.1 hX.2.2.2.2.2.1 hP 8 rfl rfl 12 (by decide) (hX.2.2.2.2.1 _ hlk) (fun _ h => h) rfl hd (k H locs ls hP hS hl)
theorem ag_X8_looks (hX : XC X G d own cc nL) {idx : Nat} (hlk : Cond.fieldLink own idx "FlueRoundsModel" "looks" "I" ∈ gtbl) (hd : decode cc pc = .ok (.getfield idx, 3)) (k : AW X G (pc + 3) L (.int (nI (S.1 19)) :: st) S) : AW X G pc L (.ref (gad G 8) :: st) S := by
  obtain ⟨p, l, e, R, s, m, args, below, meth, c, cells, slots, Q, A⟩ := X
  exact fun H locs ls hP hS hl => va_get (D := G.1) (ci := 8) (C := RX8) (T := TX8) (N := 27) hX.1 hX.2.1 hX.2.2.2.2.1 inX8 hX.2.2.2.1 hX.2.2.2.2.2.1 hP 8 rfl rfl 13 (by decide) (hX.2.2.2.2.1 _ hlk) (fun _ h => h) rfl hd (k H locs ls hP hS hl)
theorem ap_X8_looks (hX : XC X G d own cc nL) {v : Nat} {idx : Nat} (hlk : Cond.fieldLink own idx "FlueRoundsModel" "looks" "I" ∈ gtbl) (hd : decode cc pc = .ok (.putfield idx, 3)) (k : AW X G (pc + 3) L st (sN S 19 v)) : AW X G pc L (.int (nI v) :: .ref (gad G 8) :: st) S := by
  obtain ⟨p, l, e, R, s, m, args, below, meth, c, cells, slots, Q, A⟩ := X
  exact fun H locs ls hP hS hl => va_put (D := G.1) (ci := 8) (C := RX8) (T := TX8) (N := 27) (v := .int (nI v)) (ty := .int) hX.1 hX.2.1 hX.2.2.2.2.1 inX8 tyX8 tyX8_ok nmX8 hX.2.2.2.1 hX.2.2.2.2.2.1 hP (gws_D hX.2.2.2.2.2.2.1 hX.2.2.2.2.2.2.2.1) hS 8 rfl rfl 13 (by decide) (hX.2.2.2.2.1 _ hlk) (fun _ h => h) rfl (by decide +kernel) rfl rfl (Nat.le_of_ble_eq_true rfl) hd (fun H1 locs1 hP1 _ hS1 => k H1 locs1 ls hP1 hS1 hl)
theorem ag_X8_look (hX : XC X G d own cc nL) {idx : Nat} (hlk : Cond.fieldLink own idx "FlueRoundsModel" "look" "[I" ∈ gtbl) (hd : decode cc pc = .ok (.getfield idx, 3)) (k : AW X G (pc + 3) L (.ref (gad G 53) :: st) S) : AW X G pc L (.ref (gad G 8) :: st) S := by
  obtain ⟨p, l, e, R, s, m, args, below, meth, c, cells, slots, Q, A⟩ := X
  exact fun H locs ls hP hS hl => va_get (D := G.1) (ci := 8) (C := RX8) (T := TX8) (N := 27) hX.1 hX.2.1 hX.2.2.2.2.1 inX8 hX.2.2.2.1 hX.2.2.2.2.2.1 hP 8 rfl rfl 14 (by decide) (hX.2.2.2.2.1 _ hlk) (fun _ h => h) rfl hd (k H locs ls hP hS hl)
theorem ag_X8_fires (hX : XC X G d own cc nL) {idx : Nat} (hlk : Cond.fieldLink own idx "FlueRoundsModel" "fires" "I" ∈ gtbl) (hd : decode cc pc = .ok (.getfield idx, 3)) (k : AW X G (pc + 3) L (.int (nI (S.1 20)) :: st) S) : AW X G pc L (.ref (gad G 8) :: st) S := by
  obtain ⟨p, l, e, R, s, m, args, below, meth, c, cells, slots, Q, A⟩ := X
  exact fun H locs ls hP hS hl => va_get (D := G.1) (ci := 8) (C := RX8) (T := TX8) (N := 27) hX.1 hX.2.1 hX.2.2.2.2.1 inX8 hX.2.2.2.1 hX.2.2.2.2.2.1 hP 8 rfl rfl 15 (by decide) (hX.2.2.2.2.1 _ hlk) (fun _ h => h) rfl hd (k H locs ls hP hS hl)
theorem ap_X8_fires (hX : XC X G d own cc nL) {v : Nat} {idx : Nat} (hlk : Cond.fieldLink own idx "FlueRoundsModel" "fires" "I" ∈ gtbl) (hd : decode cc pc = .ok (.putfield idx, 3)) (k : AW X G (pc + 3) L st (sN S 20 v)) : AW X G pc L (.int (nI v) :: .ref (gad G 8) :: st) S := by
  obtain ⟨p, l, e, R, s, m, args, below, meth, c, cells, slots, Q, A⟩ := X
  exact fun H locs ls hP hS hl => va_put (D := G.1) (ci := 8) (C := RX8) (T := TX8) (N := 27) (v := .int (nI v)) (ty := .int) hX.1 hX.2.1 hX.2.2.2.2.1 inX8 tyX8 tyX8_ok nmX8 hX.2.2.2.1 hX.2.2.2.2.2.1 hP (gws_D hX.2.2.2.2.2.2.1 hX.2.2.2.2.2.2.2.1) hS 8 rfl rfl 15 (by decide) (hX.2.2.2.2.1 _ hlk) (fun _ h => h) rfl (by decide +kernel) rfl rfl (Nat.le_of_ble_eq_true rfl) hd (fun H1 locs1 hP1 _ hS1 => k H1 locs1 ls hP1 hS1 hl)
theorem ag_X8_fire (hX : XC X G d own cc nL) {idx : Nat} (hlk : Cond.fieldLink own idx "FlueRoundsModel" "fire" "[I" ∈ gtbl) (hd : decode cc pc = .ok (.getfield idx, 3)) (k : AW X G (pc + 3) L (.ref (gad G 54) :: st) S) : AW X G pc L (.ref (gad G 8) :: st) S := by
  obtain ⟨p, l, e, R, s, m, args, below, meth, c, cells, slots, Q, A⟩ := X
  exact fun H locs ls hP hS hl => va_get (D := G.1) (ci := 8) (C := RX8) (T := TX8) (N := 27) hX.1 hX.2.1 hX.2.2.2.2.1 inX8 hX.2.2.2.1 hX.2.2.2.2.2.1 hP 8 rfl rfl 16 (by decide) (hX.2.2.2.2.1 _ hlk) (fun _ h => h) rfl hd (k H locs ls hP hS hl)
theorem ag_X8_sweeps (hX : XC X G d own cc nL) {idx : Nat} (hlk : Cond.fieldLink own idx "FlueRoundsModel" "sweeps" "I" ∈ gtbl) (hd : decode cc pc = .ok (.getfield idx, 3)) (k : AW X G (pc + 3) L (.int (nI (S.1 21)) :: st) S) : AW X G pc L (.ref (gad G 8) :: st) S := by
  obtain ⟨p, l, e, R, s, m, args, below, meth, c, cells, slots, Q, A⟩ := X
  exact fun H locs ls hP hS hl => va_get (D := G.1) (ci := 8) (C := RX8) (T := TX8) (N := 27) hX.1 hX.2.1 hX.2.2.2.2.1 inX8 hX.2.2.2.1 hX.2.2.2.2.2.1 hP 8 rfl rfl 17 (by decide) (hX.2.2.2.2.1 _ hlk) (fun _ h => h) rfl hd (k H locs ls hP hS hl)
theorem ap_X8_sweeps (hX : XC X G d own cc nL) {v : Nat} {idx : Nat} (hlk : Cond.fieldLink own idx "FlueRoundsModel" "sweeps" "I" ∈ gtbl) (hd : decode cc pc = .ok (.putfield idx, 3)) (k : AW X G (pc + 3) L st (sN S 21 v)) : AW X G pc L (.int (nI v) :: .ref (gad G 8) :: st) S := by
  obtain ⟨p, l, e, R, s, m, args, below, meth, c, cells, slots, Q, A⟩ := X
  exact fun H locs ls hP hS hl => va_put (D := G.1) (ci := 8) (C := RX8) (T := TX8) (N := 27) (v := .int (nI v)) (ty := .int) hX.1 hX.2.1 hX.2.2.2.2.1 inX8 tyX8 tyX8_ok nmX8 hX.2.2.2.1 hX.2.2.2.2.2.1 hP (gws_D hX.2.2.2.2.2.2.1 hX.2.2.2.2.2.2.2.1) hS 8 rfl rfl 17 (by decide) (hX.2.2.2.2.1 _ hlk) (fun _ h => h) rfl (by decide +kernel) rfl rfl (Nat.le_of_ble_eq_true rfl) hd (fun H1 locs1 hP1 _ hS1 => k H1 locs1 ls hP1 hS1 hl)
theorem ag_X8_sweep (hX : XC X G d own cc nL) {idx : Nat} (hlk : Cond.fieldLink own idx "FlueRoundsModel" "sweep" "[I" ∈ gtbl) (hd : decode cc pc = .ok (.getfield idx, 3)) (k : AW X G (pc + 3) L (.ref (gad G 55) :: st) S) : AW X G pc L (.ref (gad G 8) :: st) S := by
  obtain ⟨p, l, e, R, s, m, args, below, meth, c, cells, slots, Q, A⟩ := X
  exact fun H locs ls hP hS hl => va_get (D := G.1) (ci := 8) (C := RX8) (T := TX8) (N := 27) hX.1 hX.2.1 hX.2.2.2.2.1 inX8 hX.2.2.2.1 hX.2.2.2.2.2.1 hP 8 rfl rfl 18 (by decide) (hX.2.2.2.2.1 _ hlk) (fun _ h => h) rfl hd (k H locs ls hP hS hl)
theorem ag_X8_rate (hX : XC X G d own cc nL) {idx : Nat} (hlk : Cond.fieldLink own idx "FlueRoundsModel" "rate" "I" ∈ gtbl) (hd : decode cc pc = .ok (.getfield idx, 3)) (k : AW X G (pc + 3) L (.int (nI (S.1 22)) :: st) S) : AW X G pc L (.ref (gad G 8) :: st) S := by
  obtain ⟨p, l, e, R, s, m, args, below, meth, c, cells, slots, Q, A⟩ := X
  exact fun H locs ls hP hS hl => va_get (D := G.1) (ci := 8) (C := RX8) (T := TX8) (N := 27) hX.1 hX.2.1 hX.2.2.2.2.1 inX8 hX.2.2.2.1 hX.2.2.2.2.2.1 hP 8 rfl rfl 19 (by decide) (hX.2.2.2.2.1 _ hlk) (fun _ h => h) rfl hd (k H locs ls hP hS hl)
theorem ap_X8_rate (hX : XC X G d own cc nL) {v : Nat} {idx : Nat} (hlk : Cond.fieldLink own idx "FlueRoundsModel" "rate" "I" ∈ gtbl) (hd : decode cc pc = .ok (.putfield idx, 3)) (k : AW X G (pc + 3) L st (sN S 22 v)) : AW X G pc L (.int (nI v) :: .ref (gad G 8) :: st) S := by
  obtain ⟨p, l, e, R, s, m, args, below, meth, c, cells, slots, Q, A⟩ := X
  exact fun H locs ls hP hS hl => va_put (D := G.1) (ci := 8) (C := RX8) (T := TX8) (N := 27) (v := .int (nI v)) (ty := .int) hX.1 hX.2.1 hX.2.2.2.2.1 inX8 tyX8 tyX8_ok nmX8 hX.2.2.2.1 hX.2.2.2.2.2.1 hP (gws_D hX.2.2.2.2.2.2.1 hX.2.2.2.2.2.2.2.1) hS 8 rfl rfl 19 (by decide) (hX.2.2.2.2.1 _ hlk) (fun _ h => h) rfl (by decide +kernel) rfl rfl (Nat.le_of_ble_eq_true rfl) hd (fun H1 locs1 hP1 _ hS1 => k H1 locs1 ls hP1 hS1 hl)
theorem ag_X8_isIll (hX : XC X G d own cc nL) {idx : Nat} (hlk : Cond.fieldLink own idx "FlueRoundsModel" "isIll" "[Z" ∈ gtbl) (hd : decode cc pc = .ok (.getfield idx, 3)) (k : AW X G (pc + 3) L (.ref (gad G 56) :: st) S) : AW X G pc L (.ref (gad G 8) :: st) S := by
  obtain ⟨p, l, e, R, s, m, args, below, meth, c, cells, slots, Q, A⟩ := X
  exact fun H locs ls hP hS hl => va_get (D := G.1) (ci := 8) (C := RX8) (T := TX8) (N := 27) hX.1 hX.2.1 hX.2.2.2.2.1 inX8 hX.2.2.2.1 hX.2.2.2.2.2.1 hP 8 rfl rfl 20 (by decide) (hX.2.2.2.2.1 _ hlk) (fun _ h => h) rfl hd (k H locs ls hP hS hl)
theorem ag_X8_roundMany (hX : XC X G d own cc nL) {idx : Nat} (hlk : Cond.fieldLink own idx "FlueRoundsModel" "roundMany" "I" ∈ gtbl) (hd : decode cc pc = .ok (.getfield idx, 3)) (k : AW X G (pc + 3) L (.int (nI (S.1 23)) :: st) S) : AW X G pc L (.ref (gad G 8) :: st) S := by
  obtain ⟨p, l, e, R, s, m, args, below, meth, c, cells, slots, Q, A⟩ := X
  exact fun H locs ls hP hS hl => va_get (D := G.1) (ci := 8) (C := RX8) (T := TX8) (N := 27) hX.1 hX.2.1 hX.2.2.2.2.1 inX8 hX.2.2.2.1 hX.2.2.2.2.2.1 hP 8 rfl rfl 21 (by decide) (hX.2.2.2.2.1 _ hlk) (fun _ h => h) rfl hd (k H locs ls hP hS hl)
theorem ap_X8_roundMany (hX : XC X G d own cc nL) {v : Nat} {idx : Nat} (hlk : Cond.fieldLink own idx "FlueRoundsModel" "roundMany" "I" ∈ gtbl) (hd : decode cc pc = .ok (.putfield idx, 3)) (k : AW X G (pc + 3) L st (sN S 23 v)) : AW X G pc L (.int (nI v) :: .ref (gad G 8) :: st) S := by
  obtain ⟨p, l, e, R, s, m, args, below, meth, c, cells, slots, Q, A⟩ := X
  exact fun H locs ls hP hS hl => va_put (D := G.1) (ci := 8) (C := RX8) (T := TX8) (N := 27) (v := .int (nI v)) (ty := .int) hX.1 hX.2.1 hX.2.2.2.2.1 inX8 tyX8 tyX8_ok nmX8 hX.2.2.2.1 hX.2.2.2.2.2.1 hP (gws_D hX.2.2.2.2.2.2.1 hX.2.2.2.2.2.2.2.1) hS 8 rfl rfl 21 (by decide) (hX.2.2.2.2.1 _ hlk) (fun _ h => h) rfl (by decide +kernel) rfl rfl (Nat.le_of_ble_eq_true rfl) hd (fun H1 locs1 hP1 _ hS1 => k H1 locs1 ls hP1 hS1 hl)
theorem ag_X8_row (hX : XC X G d own cc nL) {idx : Nat} (hlk : Cond.fieldLink own idx "FlueRoundsModel" "row" "[I" ∈ gtbl) (hd : decode cc pc = .ok (.getfield idx, 3)) (k : AW X G (pc + 3) L (.ref (gad G 57) :: st) S) : AW X G pc L (.ref (gad G 8) :: st) S := by
  obtain ⟨p, l, e, R, s, m, args, below, meth, c, cells, slots, Q, A⟩ := X
  exact fun H locs ls hP hS hl => va_get (D := G.1) (ci := 8) (C := RX8) (T := TX8) (N := 27) hX.1 hX.2.1 hX.2.2.2.2.1 inX8 hX.2.2.2.1 hX.2.2.2.2.2.1 hP 8 rfl rfl 22 (by decide) (hX.2.2.2.2.1 _ hlk) (fun _ h => h) rfl hd (k H locs ls hP hS hl)
theorem ag_X8_chosen (hX : XC X G d own cc nL) {idx : Nat} (hlk : Cond.fieldLink own idx "FlueRoundsModel" "chosen" "[I" ∈ gtbl) (hd : decode cc pc = .ok (.getfield idx, 3)) (k : AW X G (pc + 3) L (.ref (gad G 58) :: st) S) : AW X G pc L (.ref (gad G 8) :: st) S := by
  obtain ⟨p, l, e, R, s, m, args, below, meth, c, cells, slots, Q, A⟩ := X
  exact fun H locs ls hP hS hl => va_get (D := G.1) (ci := 8) (C := RX8) (T := TX8) (N := 27) hX.1 hX.2.1 hX.2.2.2.2.1 inX8 hX.2.2.2.1 hX.2.2.2.2.2.1 hP 8 rfl rfl 23 (by decide) (hX.2.2.2.2.1 _ hlk) (fun _ h => h) rfl hd (k H locs ls hP hS hl)
theorem ag_X8_tried (hX : XC X G d own cc nL) {idx : Nat} (hlk : Cond.fieldLink own idx "FlueRoundsModel" "tried" "[I" ∈ gtbl) (hd : decode cc pc = .ok (.getfield idx, 3)) (k : AW X G (pc + 3) L (.ref (gad G 59) :: st) S) : AW X G pc L (.ref (gad G 8) :: st) S := by
  obtain ⟨p, l, e, R, s, m, args, below, meth, c, cells, slots, Q, A⟩ := X
  exact fun H locs ls hP hS hl => va_get (D := G.1) (ci := 8) (C := RX8) (T := TX8) (N := 27) hX.1 hX.2.1 hX.2.2.2.2.1 inX8 hX.2.2.2.1 hX.2.2.2.2.2.1 hP 8 rfl rfl 24 (by decide) (hX.2.2.2.2.1 _ hlk) (fun _ h => h) rfl hd (k H locs ls hP hS hl)
theorem ag_X8_way (hX : XC X G d own cc nL) {idx : Nat} (hlk : Cond.fieldLink own idx "FlueRoundsModel" "way" "I" ∈ gtbl) (hd : decode cc pc = .ok (.getfield idx, 3)) (k : AW X G (pc + 3) L (.int (nI (S.1 24)) :: st) S) : AW X G pc L (.ref (gad G 8) :: st) S := by
  obtain ⟨p, l, e, R, s, m, args, below, meth, c, cells, slots, Q, A⟩ := X
  exact fun H locs ls hP hS hl => va_get (D := G.1) (ci := 8) (C := RX8) (T := TX8) (N := 27) hX.1 hX.2.1 hX.2.2.2.2.1 inX8 hX.2.2.2.1 hX.2.2.2.2.2.1 hP 8 rfl rfl 25 (by decide) (hX.2.2.2.2.1 _ hlk) (fun _ h => h) rfl hd (k H locs ls hP hS hl)
theorem ap_X8_way (hX : XC X G d own cc nL) {v : Nat} {idx : Nat} (hlk : Cond.fieldLink own idx "FlueRoundsModel" "way" "I" ∈ gtbl) (hd : decode cc pc = .ok (.putfield idx, 3)) (k : AW X G (pc + 3) L st (sN S 24 v)) : AW X G pc L (.int (nI v) :: .ref (gad G 8) :: st) S := by
  obtain ⟨p, l, e, R, s, m, args, below, meth, c, cells, slots, Q, A⟩ := X
  exact fun H locs ls hP hS hl => va_put (D := G.1) (ci := 8) (C := RX8) (T := TX8) (N := 27) (v := .int (nI v)) (ty := .int) hX.1 hX.2.1 hX.2.2.2.2.1 inX8 tyX8 tyX8_ok nmX8 hX.2.2.2.1 hX.2.2.2.2.2.1 hP (gws_D hX.2.2.2.2.2.2.1 hX.2.2.2.2.2.2.2.1) hS 8 rfl rfl 25 (by decide) (hX.2.2.2.2.1 _ hlk) (fun _ h => h) rfl (by decide +kernel) rfl rfl (Nat.le_of_ble_eq_true rfl) hd (fun H1 locs1 hP1 _ hS1 => k H1 locs1 ls hP1 hS1 hl)
theorem ag_X8_trace (hX : XC X G d own cc nL) {idx : Nat} (hlk : Cond.fieldLink own idx "FlueRoundsModel" "trace" "J" ∈ gtbl) (hd : decode cc pc = .ok (.getfield idx, 3)) (k : AW X G (pc + 3) L (.long (S.2.2.1 1) :: st) S) : AW X G pc L (.ref (gad G 8) :: st) S := by
  obtain ⟨p, l, e, R, s, m, args, below, meth, c, cells, slots, Q, A⟩ := X
  exact fun H locs ls hP hS hl => va_get (D := G.1) (ci := 8) (C := RX8) (T := TX8) (N := 27) hX.1 hX.2.1 hX.2.2.2.2.1 inX8 hX.2.2.2.1 hX.2.2.2.2.2.1 hP 8 rfl rfl 26 (by decide) (hX.2.2.2.2.1 _ hlk) (fun _ h => h) rfl hd (k H locs ls hP hS hl)
theorem ap_X8_trace (hX : XC X G d own cc nL) {v : Int64} {idx : Nat} (hlk : Cond.fieldLink own idx "FlueRoundsModel" "trace" "J" ∈ gtbl) (hd : decode cc pc = .ok (.putfield idx, 3)) (k : AW X G (pc + 3) L st (sL S 1 v)) : AW X G pc L (.long v :: .ref (gad G 8) :: st) S := by
  obtain ⟨p, l, e, R, s, m, args, below, meth, c, cells, slots, Q, A⟩ := X
  exact fun H locs ls hP hS hl => va_put (D := G.1) (ci := 8) (C := RX8) (T := TX8) (N := 27) (v := .long v) (ty := .long) hX.1 hX.2.1 hX.2.2.2.2.1 inX8 tyX8 tyX8_ok nmX8 hX.2.2.2.1 hX.2.2.2.2.2.1 hP (gws_D hX.2.2.2.2.2.2.1 hX.2.2.2.2.2.2.2.1) hS 8 rfl rfl 26 (by decide) (hX.2.2.2.2.1 _ hlk) (fun _ h => h) rfl (by decide +kernel) rfl rfl (Nat.le_of_ble_eq_true rfl) hd (fun H1 locs1 hP1 _ hS1 => k H1 locs1 ls hP1 hS1 hl)
theorem aw_gets (hX : XC X G d own cc nL) {idx : Nat} (hlk : Cond.fieldLink own idx "FlueRounds$Flues" "PULL_OF_FUEL" "[I" ∈ gtbl) (hd : decode cc pc = .ok (.getstatic idx, 3)) (k : AW X G (pc + 3) L (.ref (gtq G) :: st) S) : AW X G pc L st S := by
  obtain ⟨p, l, e, R, s, m, args, below, meth, c, cells, slots, Q, A⟩ := X
  exact fun H locs ls hP hS hl => va_gets hX.1 hX.2.1 hX.2.2.2.2.2.2.2.2.2.1.1 hS hX.2.2.2.1 (hX.2.2.2.2.1 _ hlk) (fun _ h => h) hd (k H locs ls hP hS hl)
theorem aw_ldc (hX : XC X G d own cc nL) {idx : Nat} {v : Int32} (hlk : Cond.constant own idx v ∈ gtbl) (hd : decode cc pc = .ok (.ldc idx, 2)) (k : AW X G (pc + 2) L (.int v :: st) S) : AW X G pc L st S := by
  obtain ⟨p, l, e, R, s, m, args, below, meth, c, cells, slots, Q, A⟩ := X
  exact fun H locs ls hP hS hl => lv_ldc hX.1 hX.2.1 hX.2.2.2.1 (hX.2.2.2.2.1 _ hlk) hd (k H locs ls hP hS hl)
theorem aw_ldcw (hX : XC X G d own cc nL) {idx : Nat} {v : Int32} (hlk : Cond.constant own idx v ∈ gtbl) (hd : decode cc pc = .ok (.ldc_w idx, 3)) (k : AW X G (pc + 3) L (.int v :: st) S) : AW X G pc L st S := by
  obtain ⟨p, l, e, R, s, m, args, below, meth, c, cells, slots, Q, A⟩ := X
  exact fun H locs ls hP hS hl => lv_ldcw hX.1 hX.2.1 hX.2.2.2.1 (hX.2.2.2.2.1 _ hlk) hd (k H locs ls hP hS hl)
theorem aw_ldc2 (hX : XC X G d own cc nL) {idx : Nat} {v : Int64} (hlk : Cond.constantLong own idx v ∈ gtbl) (hd : decode cc pc = .ok (.ldc2_w idx, 3)) (k : AW X G (pc + 3) L (.long v :: st) S) : AW X G pc L st S := by
  obtain ⟨p, l, e, R, s, m, args, below, meth, c, cells, slots, Q, A⟩ := X
  exact fun H locs ls hP hS hl => lv_ldc2 hX.1 hX.2.1 hX.2.2.2.1 (hX.2.2.2.2.1 _ hlk) hd (k H locs ls hP hS hl)
end AWF
end
section
def gR (d : Nat) : Room := { frames := d, cells := 0, slots := 0, locals := 64 * d }
def gWd (G : GT) (S : St) (U : State) : Prop := va_P G.1 vwCl (gws G S) U.heap ∧ va_K G.1 vwCl (gty G) U ∧ gInj G ∧ gSt G (gA G U.heap.size) U U.heap
def gPost (G : GT) (r : Option Value) (S' : St) : Array Value → State → Outcome → State → Prop := fun _ st oc t => oc = .returned r ∧ va_P G.1 vwCl (gws G S') t.heap ∧ va_F (gA G st.heap.size) st t
/-- from the arguments av and the state S the method y answers r and leaves S'; d frames are left for it -/
def Runs (G : GT) (d : Nat) (y : MethodName) (cc : ByteArray) (mL : Nat) (ret : Option FieldType) (av : List Value) (S : St) (r : Option Value) (S' : St) : Prop :=
  ∀ (l : Launch) (sz : Nat), Met l y (.code y cc mL ret :: gtbl) (gR d) (va_Pc av (fun U => U.heap.size = sz ∧ gWd G S U)) (gPost G r S') 0 0 (gA G sz)
def entL : List Value → Nat → List Value
  | [], n => List.replicate n .null
  | v :: vs, n => if v.category = 2 then v :: .null :: entL vs (n - 2) else v :: entL vs (n - 1)
theorem entL_in : ∀ (vs : List Value) (i n j : Nat) (v : Value), (entL vs n)[j]? = some v → v = .null ∨ (i + j, v) ∈ lv_args i vs
  | [], i, n, j, v, h => Or.inl (List.eq_of_mem_replicate (List.mem_of_getElem? h))
  | w :: vs, i, n, j, v, h => by
    unfold entL at h
    split at h
    · rename_i hc
      match j, h with
      | 0, h => cases h; exact Or.inr List.mem_cons_self
      | 1, h => cases h; exact Or.inl rfl
      | j + 2, h =>
        rcases entL_in vs (i + 2) (n - 2) j v h with q | q
        · exact Or.inl q
        · refine Or.inr (List.mem_cons_of_mem _ ?_)
          rw [if_pos hc, show i + (j + 2) = i + 2 + j by omega]
          exact q
    · rename_i hc
      match j, h with
      | 0, h => cases h; exact Or.inr List.mem_cons_self
      | j + 1, h =>
        rcases entL_in vs (i + 1) (n - 1) j v h with q | q
        · exact Or.inl q
        · refine Or.inr (List.mem_cons_of_mem _ ?_)
          rw [if_neg hc, show i + (j + 1) = i + 1 + j by omega]
          exact q
section RUN
variable {G : GT} {d : Nat} {y : MethodName} {cc : ByteArray} {mL : Nat} {av : List Value} {S S' : St}

theorem runs_I {v : Int32} (hy : plainName y.cls = true) (hsl : (lg_sl av).length ≤ mL) (body : ∀ X : XT, XC X G d y.cls cc mL → (∀ (pc : Nat) (L : List Value), decode cc pc = .ok (.ireturn, 1) → AW X G pc L [.int v] S') → AW X G 0 (entL av mL) [] S) : Runs G (d + 1) y cc mL (some .int) av S (some (.int v)) S' := by
  intro l sz
  refine Met.ofW (cc := cc) (maxL := mL) (ret := (some .int)) hy rfl ?_
  intro p e s m args below meth c s₁ B hml hv
  obtain ⟨rfl, hsz0, hP, hK, hI, hZ⟩ := hv
  subst hsz0
  have hts := atoms_spec (ws := .code y cc mL (some .int) :: gtbl) B.pre
  have hlocks := B.notSynchronized
  rw [lg_entry_eq]
  refine body (p, l, e, _, s, m, av.toArray, below, meth, c, 0, 0, MQ below (gPost G (some (.int v)) S') av.toArray s 0 0 (gA G s.heap.size), gA G s.heap.size) ⟨B.exec, B.bytes, hml, findClass_of_methodNamed B.named, fun w hw => hts w (List.mem_cons_of_mem _ hw), hK, hI, fun k hk => Or.inl ⟨k, hk, rfl⟩, fun q h => Or.inr h, hZ, Nat.le_refl _, Nat.le_refl _, Nat.zero_le _, Nat.zero_le _⟩ ?_ s.heap [] _ hP va_S.rf (by rw [hml]; exact hasL.entry av hsl (fun i v h => by have := entL_in av 0 mL i v h; rwa [Nat.zero_add] at this))
  intro pc L hdg H locs ls hP hS hl
  exact W.iret (v := v) B.exec B.bytes B.returns (fun t ht hW => ⟨rfl, by rw [ht]; exact hP, hS.F ht⟩) hS.2.2 hdg
theorem runs_Z {v : Bool} (hy : plainName y.cls = true) (hsl : (lg_sl av).length ≤ mL) (body : ∀ X : XT, XC X G d y.cls cc mL → (∀ (pc : Nat) (L : List Value), decode cc pc = .ok (.ireturn, 1) → AW X G pc L [.int (bI v)] S') → AW X G 0 (entL av mL) [] S) : Runs G (d + 1) y cc mL (some .boolean) av S (some (.int (bI v))) S' := by
  intro l sz
  refine Met.ofW (cc := cc) (maxL := mL) (ret := (some .boolean)) hy rfl ?_
  intro p e s m args below meth c s₁ B hml hv
  obtain ⟨rfl, hsz0, hP, hK, hI, hZ⟩ := hv
  subst hsz0
  have hts := atoms_spec (ws := .code y cc mL (some .boolean) :: gtbl) B.pre
  have hlocks := B.notSynchronized
  rw [lg_entry_eq]
  refine body (p, l, e, _, s, m, av.toArray, below, meth, c, 0, 0, MQ below (gPost G (some (.int (bI v))) S') av.toArray s 0 0 (gA G s.heap.size), gA G s.heap.size) ⟨B.exec, B.bytes, hml, findClass_of_methodNamed B.named, fun w hw => hts w (List.mem_cons_of_mem _ hw), hK, hI, fun k hk => Or.inl ⟨k, hk, rfl⟩, fun q h => Or.inr h, hZ, Nat.le_refl _, Nat.le_refl _, Nat.zero_le _, Nat.zero_le _⟩ ?_ s.heap [] _ hP va_S.rf (by rw [hml]; exact hasL.entry av hsl (fun i v h => by have := entL_in av 0 mL i v h; rwa [Nat.zero_add] at this))
  intro pc L hdg H locs ls hP hS hl
  exact W.zret (v := bI v) B.exec B.bytes B.returns (by cases v <;> rfl) (fun t ht hW => ⟨rfl, by rw [ht]; exact hP, hS.F ht⟩) hS.2.2 hdg
theorem runs_L {v : Int64} (hy : plainName y.cls = true) (hsl : (lg_sl av).length ≤ mL) (body : ∀ X : XT, XC X G d y.cls cc mL → (∀ (pc : Nat) (L : List Value), decode cc pc = .ok (.lreturn, 1) → AW X G pc L [.long v] S') → AW X G 0 (entL av mL) [] S) : Runs G (d + 1) y cc mL (some .long) av S (some (.long v)) S' := by
  intro l sz
  refine Met.ofW (cc := cc) (maxL := mL) (ret := (some .long)) hy rfl ?_
  intro p e s m args below meth c s₁ B hml hv
  obtain ⟨rfl, hsz0, hP, hK, hI, hZ⟩ := hv
  subst hsz0
  have hts := atoms_spec (ws := .code y cc mL (some .long) :: gtbl) B.pre
  have hlocks := B.notSynchronized
  rw [lg_entry_eq]
  refine body (p, l, e, _, s, m, av.toArray, below, meth, c, 0, 0, MQ below (gPost G (some (.long v)) S') av.toArray s 0 0 (gA G s.heap.size), gA G s.heap.size) ⟨B.exec, B.bytes, hml, findClass_of_methodNamed B.named, fun w hw => hts w (List.mem_cons_of_mem _ hw), hK, hI, fun k hk => Or.inl ⟨k, hk, rfl⟩, fun q h => Or.inr h, hZ, Nat.le_refl _, Nat.le_refl _, Nat.zero_le _, Nat.zero_le _⟩ ?_ s.heap [] _ hP va_S.rf (by rw [hml]; exact hasL.entry av hsl (fun i v h => by have := entL_in av 0 mL i v h; rwa [Nat.zero_add] at this))
  intro pc L hdg H locs ls hP hS hl
  exact W.lret (v := v) B.exec B.bytes B.returns (fun t ht hW => ⟨rfl, by rw [ht]; exact hP, hS.F ht⟩) hS.2.2 hdg
theorem runs_V (hy : plainName y.cls = true) (hsl : (lg_sl av).length ≤ mL) (body : ∀ X : XT, XC X G d y.cls cc mL → (∀ (pc : Nat) (L : List Value), decode cc pc = .ok (.return_, 1) → AW X G pc L [] S') → AW X G 0 (entL av mL) [] S) : Runs G (d + 1) y cc mL none av S none S' := by
  intro l sz
  refine Met.ofW (cc := cc) (maxL := mL) (ret := none) hy rfl ?_
  intro p e s m args below meth c s₁ B hml hv
  obtain ⟨rfl, hsz0, hP, hK, hI, hZ⟩ := hv
  subst hsz0
  have hts := atoms_spec (ws := .code y cc mL none :: gtbl) B.pre
  have hlocks := B.notSynchronized
  rw [lg_entry_eq]
  refine body (p, l, e, _, s, m, av.toArray, below, meth, c, 0, 0, MQ below (gPost G none S') av.toArray s 0 0 (gA G s.heap.size), gA G s.heap.size) ⟨B.exec, B.bytes, hml, findClass_of_methodNamed B.named, fun w hw => hts w (List.mem_cons_of_mem _ hw), hK, hI, fun k hk => Or.inl ⟨k, hk, rfl⟩, fun q h => Or.inr h, hZ, Nat.le_refl _, Nat.le_refl _, Nat.zero_le _, Nat.zero_le _⟩ ?_ s.heap [] _ hP va_S.rf (by rw [hml]; exact hasL.entry av hsl (fun i v h => by have := entL_in av 0 mL i v h; rwa [Nat.zero_add] at this))
  intro pc L hdg H locs ls hP hS hl
  exact W.vret B.exec B.bytes B.returns (fun t ht hW => ⟨rfl, by rw [ht]; exact hP, hS.F ht⟩) hS.2.2 hdg
end RUN
def KY (y : MethodName) (cc : ByteArray) (mL : Nat) (ret : Option FieldType) (n : Nat) : Prop := Cond.initialized y.cls ∈ gtbl ∧ Cond.code y cc mL ret ∈ gtbl ∧ (y.cls ≠ "java/lang/invoke/MethodHandle" ∧ y.cls ≠ "java/lang/invoke/VarHandle" ∧ (parseMethodDescriptor y.desc).map (fun d => d.parameters.length) = some n) ∧ mL ≤ 45
section CALLS
variable {X : XT} {G : GT} {d : Nat} {own : String} {cc : ByteArray} {nL : Nat} {pc : Nat} {L : List Value} {S S' : St} {y : MethodName} {cc2 : ByteArray} {mL n idx : Nat} {ret : Option FieldType} {As rest st0 : List Value} {r : Option Value}
theorem ky_good (h : KY y cc2 mL ret n) : GoodIn gtbl (.code y cc2 mL ret :: gtbl) := by
  intro w hw
  have hm : w ∈ gtbl := by
    rcases List.mem_cons.mp hw with rfl | hw
    · exact h.2.1
    · exact hw
  exact ⟨hm, good_of_word (tbl_good w hm)⟩
theorem blind_gWd {av : List Value} {sz : Nat} : FrameBlind (va_Pc av (fun U => U.heap.size = sz ∧ gWd G S U)) := by
  intro a U g mk q
  obtain ⟨q0, q1, qP, qK, qI, qZ⟩ := q
  exact ⟨q0, q1, qP, va_K.moved (u := U) (U := U.calling g mk a) (Vm.Alike.refl U.vm) qK, qI, va_Z.moved (u := U) (U := U.calling g mk a) (Vm.Alike.refl U.vm) qZ.1, va_T.moved (u := U) (U := U.calling g mk a) (Vm.Alike.refl U.vm) qZ.2⟩
theorem gWd_in {A : Nat → Prop} {s U : State} {H : Heap} {locs : List Loc} (hP : va_P G.1 vwCl (gws G S) H) (hK : va_K G.1 vwCl (gty G) s) (hI : gInj G) (hA : ∀ k : Nat, k < 60 → A (gad G k)) (hA2 : ∀ q : Nat, s.heap.size ≤ q → A q) (hZ : gSt G A s s.heap) (hS : va_S A s.heap H locs) (hU : U.heap = H) (hW : s.WarmedH U.vm) : gWd G S U := by
  have hsub : ∀ q, gA G U.heap.size q → A q := by
    intro q h
    rcases h with ⟨k, hk, rfl⟩ | h
    · exact hA k hk
    · rw [hU] at h
      exact hA2 q (Nat.le_trans hS.1 h)
  refine ⟨by rw [hU]; exact hP, va_K.moved hW.alike hK, hI, ?_, ?_⟩
  · rw [hU]
    rw [hU] at hsub
    exact ((hZ.1.kept (fun a h1 h2 => hS.2.1 a h1 h2)).moved hW.alike).narrow hsub
  · rw [hU]
    rw [hU] at hsub
    exact ((hZ.2.kept (fun a h1 h2 => hS.2.1 a h1 h2)).moved hW.alike).narrow hsub
theorem ac_go {p : Program} {l : Launch} {e : Env} {R : Room} {s : State} {m : MethodId} {args : Array Value} {below : List Frame} {meth : Method} {c : Code} {H : Heap} {locs : List Loc} {cells slots : Nat} {Q : State → Prop} {A : Nat → Prop} {ls : Array Slot} {a : Array Value}
    (hr : va_Run p l e R s m args below meth c H locs cells slots 0 0 (F0 m pc ls st0) rest (gPost G r S' a) (gA G H.size)) (hS : va_S A s.heap H locs) (hA : ∀ k : Nat, k < 60 → A (gad G k)) (hA2 : ∀ q : Nat, s.heap.size ≤ q → A q)
    (kk : ∀ (H1 : Heap) (locs1 : List Loc), va_P G.1 vwCl (gws G S') H1 → va_S A s.heap H1 locs1 → W p l e R s m args below meth c H1 locs1 cells slots Q (F0 m (pc + 3) ls (r.toList ++ rest))) : W p l e R s m args below meth c H locs cells slots Q (F0 m pc ls st0) := by
  have hsub : ∀ q, gA G H.size q → A q := by
    intro q h
    rcases h with ⟨k, hk, rfl⟩ | h
    · exact hA k hk
    · exact hA2 q (Nat.le_trans hS.1 h)
  intro T hT X
  obtain ⟨v, st₀, t, T', L, h0, X', hL, e1, e2, ⟨hv, hP, hz, hk⟩, st⟩ := hr T hT X
  cases hv
  rw [h0] at hz hk
  obtain ⟨t2, a1, b1⟩ := kk T'.heap (locs ++ L) (by rw [e1]; exact hP)
    ⟨Nat.le_trans hS.1 (by rw [e1]; exact hz), fun q h1 h2 => by rw [e1, hk q (Nat.lt_of_lt_of_le h1 hS.1) (fun z => h2 (hsub q z))]; exact hS.2.1 q h1 h2, fun q hq => by
      rcases List.mem_append.mp hq with h | h
      · exact hS.2.2 q h
      · exact hsub _ (hL q h)⟩ T' rfl X'
  exact ⟨t2, st t2 a1, b1⟩
theorem ac_V (hX : XC X G d own cc nL) {C : String} {o ci : Nat} {fs : List Value} {q : vw_C} (hd : decode cc pc = .ok (.invokevirtual idx, 3)) (hml : Cond.methodLink own idx y ∈ gtbl) (hky : KY y cc2 mL ret n) (him : Cond.instanceMethod y ∈ gtbl) (hse : Cond.selects q.1 y y ∈ gtbl) (hr : Runs G d y cc2 mL ret (.ref (gad G o) :: As) S r S') (hn : As.length = n) (he : (gws G S)[o]? = some (gad G o, .inr (ci, fs))) (hc : vwCl[ci]? = some q) (hst : (rest.map fun v => v.category).sum ≤ 8) (hs0 : st0 = As.reverse ++ .ref (gad G o) :: rest) (k : AW X G (pc + 3) L (r.toList ++ rest) S') : AW X G pc L st0 S := by
  obtain ⟨p, l, e, R, s, m, args, below, meth, c, cells, slots, Q, A⟩ := X
  intro H locs ls hP hS hl
  obtain ⟨hx, hb, hnl, hown, hts, hK, hI, hA, hA2, hZ, hfr, hlo, hce, hsl⟩ := hX
  have hB : CallB R s args own idx y cc2 mL ret (.code y cc2 mL ret :: gtbl) (gR d) 0 0 n := callB_of n hts (ky_good hky) rfl rfl rfl (hts _ hky.1) (hts _ hml) hky.2.2.1 ⟨hfr, by have := hky.2.2.2; show 8 + (mL + 11) + 64 * d ≤ R.locals; omega⟩
  refine ac_go (va_runV (C := q.1) (nL := c.maxLocals) (As := As) (rest := rest) ⟨hx, hb, rfl, hown, hts⟩ (hr l H.size) ⟨hB, hts _ him, hts _ hse⟩ ⟨blind_gWd, va_recv hK hP hc he, fun U hU hW => ⟨rfl, by rw [hU], gWd_in hP hK hI hA hA2 hZ hS hU hW⟩⟩ rfl hn hl.1 hs0 (lv_room hst) hd ⟨hce, hsl⟩) hS hA hA2 (fun H1 locs1 hP1 hS1 => k H1 locs1 ls hP1 hS1 hl)
theorem ac_S (hX : XC X G d own cc nL) (hd : decode cc pc = .ok (.invokestatic idx, 3)) (hml : Cond.methodLink own idx y ∈ gtbl) (hky : KY y cc2 mL ret n) (hsm : Cond.static y ∈ gtbl) (hr : Runs G d y cc2 mL ret As S r S') (hn : As.length = n) (hst : (rest.map fun v => v.category).sum ≤ 8) (hs0 : st0 = As.reverse ++ rest) (k : AW X G (pc + 3) L (r.toList ++ rest) S') : AW X G pc L st0 S := by
  obtain ⟨p, l, e, R, s, m, args, below, meth, c, cells, slots, Q, A⟩ := X
  intro H locs ls hP hS hl
  obtain ⟨hx, hb, hnl, hown, hts, hK, hI, hA, hA2, hZ, hfr, hlo, hce, hsl⟩ := hX
  have hB : CallB R s args own idx y cc2 mL ret (.code y cc2 mL ret :: gtbl) (gR d) 0 0 n := callB_of n hts (ky_good hky) rfl rfl rfl (hts _ hky.1) (hts _ hml) hky.2.2.1 ⟨hfr, by have := hky.2.2.2; show 8 + (mL + 11) + 64 * d ≤ R.locals; omega⟩
  refine ac_go (va_runS (nL := c.maxLocals) (As := As) (rest := rest) ⟨hx, hb, rfl, hown, hts⟩ (hr l H.size) ⟨hB, hts _ hsm⟩ ⟨blind_gWd, fun U hU hW => ⟨rfl, by rw [hU], gWd_in hP hK hI hA hA2 hZ hS hU hW⟩⟩ rfl hn hl.1 hs0 (lv_room hst) hd ⟨hce, hsl⟩) hS hA hA2 (fun H1 locs1 hP1 hS1 => k H1 locs1 ls hP1 hS1 hl)
theorem aw_abs (hX : XC X G d own cc nL) {x : Int32} (hml : Cond.methodLink own idx yJ9_abs_0f7a4 ∈ gtbl) (hd : decode cc pc = .ok (.invokestatic idx, 3)) (hst : (rest.map fun v => v.category).sum ≤ 8) (k : AW X G (pc + 3) L (.int (if 0 ≤ x then x else 0 - x) :: rest) S) : AW X G pc L (.int x :: rest) S := by
  obtain ⟨p, l, e, R, s, m, args, below, meth, c, cells, slots, Q, A⟩ := X
  intro H locs ls hP hS hl
  obtain ⟨hx, hb, hnl, hown, hts, hK, hI, hA, hA2, hZ, hfr, hlo, hce, hsl⟩ := hX
  exact va_mabs hx hb hl.1.symm hown (hts _ hml) (hts _ sm_yJ9_abs_0f7a4) (hts _ in_J9) (hts _ co_yJ9_abs_0f7a4) (by omega) (by omega) hce hsl hd (k H locs ls hP hS hl)
theorem aw_max (hX : XC X G d own cc nL) {x z : Int32} (hml : Cond.methodLink own idx yJ9_max_7cf53 ∈ gtbl) (hd : decode cc pc = .ok (.invokestatic idx, 3)) (hst : (rest.map fun v => v.category).sum ≤ 8) (k : AW X G (pc + 3) L (.int (if x < z then z else x) :: rest) S) : AW X G pc L (.int z :: .int x :: rest) S := by
  obtain ⟨p, l, e, R, s, m, args, below, meth, c, cells, slots, Q, A⟩ := X
  intro H locs ls hP hS hl
  obtain ⟨hx, hb, hnl, hown, hts, hK, hI, hA, hA2, hZ, hfr, hlo, hce, hsl⟩ := hX
  exact va_mmax hx hb hl.1.symm hown (hts _ hml) (hts _ sm_yJ9_max_7cf53) (hts _ in_J9) (hts _ co_yJ9_max_7cf53) (by omega) (by omega) hce hsl hd (k H locs ls hP hS hl)
end CALLS
section AWC
variable {X : XT} {G : GT} {d : Nat} {own : String} {cc : ByteArray} {nL : Nat} {pc : Nat} {L st : List Value} {S S' : St} {idx : Nat}
theorem ky_X7_type : KY yX7_type cX7_type 4 (some .int) 2 := ⟨in_X7, co_yX7_type, by decide +kernel, by decide⟩
abbrev rX7_type (G : GT) (d : Nat) (av : List Value) (S : St) (r : Option Value) (S' : St) : Prop := Runs G d yX7_type cX7_type 4 (some .int) av S r S'
theorem cv_X7_type (hX : XC X G d own cc nL) {a0 a1 : Value} {v : Int32} (hml : Cond.methodLink own idx yX7_type ∈ gtbl) (hd : decode cc pc = .ok (.invokevirtual idx, 3)) (hr : rX7_type G d [.ref (gad G 0), a0, a1] S (some (.int v)) S') (hst : (st.map fun v => v.category).sum ≤ 8) (k : AW X G (pc + 3) L (.int v :: st) S') : AW X G pc L (a1 :: a0 :: .ref (gad G 0) :: st) S :=
  ac_V hX (As := [a0, a1]) (C := RX7) hd hml ky_X7_type im_yX7_type se_yX7_type hr rfl rfl rfl hst rfl k
theorem ky_X7_within : KY yX7_within cX7_within 3 (some .boolean) 3 := ⟨in_X7, co_yX7_within, by decide +kernel, by decide⟩
abbrev rX7_within (G : GT) (d : Nat) (av : List Value) (S : St) (r : Option Value) (S' : St) : Prop := Runs G d yX7_within cX7_within 3 (some .boolean) av S r S'
theorem cs_X7_within (hX : XC X G d own cc nL) {a0 a1 a2 : Value} {v : Int32} (hml : Cond.methodLink own idx yX7_within ∈ gtbl) (hd : decode cc pc = .ok (.invokestatic idx, 3)) (hr : rX7_within G d [a0, a1, a2] S (some (.int v)) S') (hst : (st.map fun v => v.category).sum ≤ 8) (k : AW X G (pc + 3) L (.int v :: st) S') : AW X G pc L (a2 :: a1 :: a0 :: st) S :=
  ac_S hX (As := [a0, a1, a2]) hd hml ky_X7_within sm_yX7_within hr rfl hst rfl k
theorem ky_X0_hasRoomFor : KY yX0_hasRoomFor cX0_hasRoomFor 2 (some .boolean) 1 := ⟨in_X0, co_yX0_hasRoomFor, by decide +kernel, by decide⟩
abbrev rX0_hasRoomFor (G : GT) (d : Nat) (av : List Value) (S : St) (r : Option Value) (S' : St) : Prop := Runs G d yX0_hasRoomFor cX0_hasRoomFor 2 (some .boolean) av S r S'
theorem cv_X0_hasRoomFor (hX : XC X G d own cc nL) {a0 : Value} {v : Int32} (hml : Cond.methodLink own idx yX0_hasRoomFor ∈ gtbl) (hd : decode cc pc = .ok (.invokevirtual idx, 3)) (hr : rX0_hasRoomFor G d [.ref (gad G 1), a0] S (some (.int v)) S') (hst : (st.map fun v => v.category).sum ≤ 8) (k : AW X G (pc + 3) L (.int v :: st) S') : AW X G pc L (a0 :: .ref (gad G 1) :: st) S :=
  ac_V hX (As := [a0]) (C := RX0) hd hml ky_X0_hasRoomFor im_yX0_hasRoomFor se_yX0_hasRoomFor hr rfl rfl rfl hst rfl k
theorem ky_X0_append : KY yX0_append cX0_append 5 none 2 := ⟨in_X0, co_yX0_append, by decide +kernel, by decide⟩
abbrev rX0_append (G : GT) (d : Nat) (av : List Value) (S : St) (r : Option Value) (S' : St) : Prop := Runs G d yX0_append cX0_append 5 none av S r S'
theorem cv_X0_append (hX : XC X G d own cc nL) {a0 a1 : Value} (hml : Cond.methodLink own idx yX0_append ∈ gtbl) (hd : decode cc pc = .ok (.invokevirtual idx, 3)) (hr : rX0_append G d [.ref (gad G 1), a0, a1] S none S') (hst : (st.map fun v => v.category).sum ≤ 8) (k : AW X G (pc + 3) L (st) S') : AW X G pc L (a1 :: a0 :: .ref (gad G 1) :: st) S :=
  ac_V hX (As := [a0, a1]) (C := RX0) hd hml ky_X0_append im_yX0_append se_yX0_append hr rfl rfl rfl hst rfl k
theorem ky_X7_clear : KY yX7_clear cX7_clear 1 (some .int) 0 := ⟨in_X7, co_yX7_clear, by decide +kernel, by decide⟩
abbrev rX7_clear (G : GT) (d : Nat) (av : List Value) (S : St) (r : Option Value) (S' : St) : Prop := Runs G d yX7_clear cX7_clear 1 (some .int) av S r S'
theorem cv_X7_clear (hX : XC X G d own cc nL) {v : Int32} (hml : Cond.methodLink own idx yX7_clear ∈ gtbl) (hd : decode cc pc = .ok (.invokevirtual idx, 3)) (hr : rX7_clear G d [.ref (gad G 0)] S (some (.int v)) S') (hst : (st.map fun v => v.category).sum ≤ 8) (k : AW X G (pc + 3) L (.int v :: st) S') : AW X G pc L (.ref (gad G 0) :: st) S :=
  ac_V hX (As := []) (C := RX7) hd hml ky_X7_clear im_yX7_clear se_yX7_clear hr rfl rfl rfl hst rfl k
theorem ky_X0_empty : KY yX0_empty cX0_empty 2 (some .int) 0 := ⟨in_X0, co_yX0_empty, by decide +kernel, by decide⟩
abbrev rX0_empty (G : GT) (d : Nat) (av : List Value) (S : St) (r : Option Value) (S' : St) : Prop := Runs G d yX0_empty cX0_empty 2 (some .int) av S r S'
theorem cv_X0_empty (hX : XC X G d own cc nL) {v : Int32} (hml : Cond.methodLink own idx yX0_empty ∈ gtbl) (hd : decode cc pc = .ok (.invokevirtual idx, 3)) (hr : rX0_empty G d [.ref (gad G 1)] S (some (.int v)) S') (hst : (st.map fun v => v.category).sum ≤ 8) (k : AW X G (pc + 3) L (.int v :: st) S') : AW X G pc L (.ref (gad G 1) :: st) S :=
  ac_V hX (As := []) (C := RX0) hd hml ky_X0_empty im_yX0_empty se_yX0_empty hr rfl rfl rfl hst rfl k
theorem ky_X7_law : KY yX7_law cX7_law 3 (some .int) 0 := ⟨in_X7, co_yX7_law, by decide +kernel, by decide⟩
abbrev rX7_law (G : GT) (d : Nat) (av : List Value) (S : St) (r : Option Value) (S' : St) : Prop := Runs G d yX7_law cX7_law 3 (some .int) av S r S'
theorem cv_X7_law (hX : XC X G d own cc nL) {v : Int32} (hml : Cond.methodLink own idx yX7_law ∈ gtbl) (hd : decode cc pc = .ok (.invokevirtual idx, 3)) (hr : rX7_law G d [.ref (gad G 0)] S (some (.int v)) S') (hst : (st.map fun v => v.category).sum ≤ 8) (k : AW X G (pc + 3) L (.int v :: st) S') : AW X G pc L (.ref (gad G 0) :: st) S :=
  ac_V hX (As := []) (C := RX7) hd hml ky_X7_law im_yX7_law se_yX7_law hr rfl rfl rfl hst rfl k
theorem ky_X0_readItems : KY yX0_readItems cX0_readItems 2 (some .int) 0 := ⟨in_X0, co_yX0_readItems, by decide +kernel, by decide⟩
abbrev rX0_readItems (G : GT) (d : Nat) (av : List Value) (S : St) (r : Option Value) (S' : St) : Prop := Runs G d yX0_readItems cX0_readItems 2 (some .int) av S r S'
theorem cv_X0_readItems (hX : XC X G d own cc nL) {v : Int32} (hml : Cond.methodLink own idx yX0_readItems ∈ gtbl) (hd : decode cc pc = .ok (.invokevirtual idx, 3)) (hr : rX0_readItems G d [.ref (gad G 1)] S (some (.int v)) S') (hst : (st.map fun v => v.category).sum ≤ 8) (k : AW X G (pc + 3) L (.int v :: st) S') : AW X G pc L (.ref (gad G 1) :: st) S :=
  ac_V hX (As := []) (C := RX0) hd hml ky_X0_readItems im_yX0_readItems se_yX0_readItems hr rfl rfl rfl hst rfl k
theorem ky_X0_readStep : KY yX0_readStep cX0_readStep 2 (some .boolean) 1 := ⟨in_X0, co_yX0_readStep, by decide +kernel, by decide⟩
abbrev rX0_readStep (G : GT) (d : Nat) (av : List Value) (S : St) (r : Option Value) (S' : St) : Prop := Runs G d yX0_readStep cX0_readStep 2 (some .boolean) av S r S'
theorem cv_X0_readStep (hX : XC X G d own cc nL) {a0 : Value} {v : Int32} (hml : Cond.methodLink own idx yX0_readStep ∈ gtbl) (hd : decode cc pc = .ok (.invokevirtual idx, 3)) (hr : rX0_readStep G d [.ref (gad G 1), a0] S (some (.int v)) S') (hst : (st.map fun v => v.category).sum ≤ 8) (k : AW X G (pc + 3) L (.int v :: st) S') : AW X G pc L (a0 :: .ref (gad G 1) :: st) S :=
  ac_V hX (As := [a0]) (C := RX0) hd hml ky_X0_readStep im_yX0_readStep se_yX0_readStep hr rfl rfl rfl hst rfl k
theorem ky_X0_readFrom : KY yX0_readFrom cX0_readFrom 1 (some .boolean) 0 := ⟨in_X0, co_yX0_readFrom, by decide +kernel, by decide⟩
abbrev rX0_readFrom (G : GT) (d : Nat) (av : List Value) (S : St) (r : Option Value) (S' : St) : Prop := Runs G d yX0_readFrom cX0_readFrom 1 (some .boolean) av S r S'
theorem cv_X0_readFrom (hX : XC X G d own cc nL) {v : Int32} (hml : Cond.methodLink own idx yX0_readFrom ∈ gtbl) (hd : decode cc pc = .ok (.invokevirtual idx, 3)) (hr : rX0_readFrom G d [.ref (gad G 1)] S (some (.int v)) S') (hst : (st.map fun v => v.category).sum ≤ 8) (k : AW X G (pc + 3) L (.int v :: st) S') : AW X G pc L (.ref (gad G 1) :: st) S :=
  ac_V hX (As := []) (C := RX0) hd hml ky_X0_readFrom im_yX0_readFrom se_yX0_readFrom hr rfl rfl rfl hst rfl k
theorem ky_X0_readNumber : KY yX0_readNumber cX0_readNumber 4 (some .boolean) 2 := ⟨in_X0, co_yX0_readNumber, by decide +kernel, by decide⟩
abbrev rX0_readNumber (G : GT) (d : Nat) (av : List Value) (S : St) (r : Option Value) (S' : St) : Prop := Runs G d yX0_readNumber cX0_readNumber 4 (some .boolean) av S r S'
theorem cv_X0_readNumber (hX : XC X G d own cc nL) {a0 a1 : Value} {v : Int32} (hml : Cond.methodLink own idx yX0_readNumber ∈ gtbl) (hd : decode cc pc = .ok (.invokevirtual idx, 3)) (hr : rX0_readNumber G d [.ref (gad G 1), a0, a1] S (some (.int v)) S') (hst : (st.map fun v => v.category).sum ≤ 8) (k : AW X G (pc + 3) L (.int v :: st) S') : AW X G pc L (a1 :: a0 :: .ref (gad G 1) :: st) S :=
  ac_V hX (As := [a0, a1]) (C := RX0) hd hml ky_X0_readNumber im_yX0_readNumber se_yX0_readNumber hr rfl rfl rfl hst rfl k
theorem ky_X0_digitAtPlace : KY yX0_digitAtPlace cX0_digitAtPlace 2 (some .int) 0 := ⟨in_X0, co_yX0_digitAtPlace, by decide +kernel, by decide⟩
abbrev rX0_digitAtPlace (G : GT) (d : Nat) (av : List Value) (S : St) (r : Option Value) (S' : St) : Prop := Runs G d yX0_digitAtPlace cX0_digitAtPlace 2 (some .int) av S r S'
theorem cv_X0_digitAtPlace (hX : XC X G d own cc nL) {v : Int32} (hml : Cond.methodLink own idx yX0_digitAtPlace ∈ gtbl) (hd : decode cc pc = .ok (.invokevirtual idx, 3)) (hr : rX0_digitAtPlace G d [.ref (gad G 1)] S (some (.int v)) S') (hst : (st.map fun v => v.category).sum ≤ 8) (k : AW X G (pc + 3) L (.int v :: st) S') : AW X G pc L (.ref (gad G 1) :: st) S :=
  ac_V hX (As := []) (C := RX0) hd hml ky_X0_digitAtPlace im_yX0_digitAtPlace se_yX0_digitAtPlace hr rfl rfl rfl hst rfl k
theorem ky_X0_readSpan : KY yX0_readSpan cX0_readSpan 2 (some .boolean) 1 := ⟨in_X0, co_yX0_readSpan, by decide +kernel, by decide⟩
abbrev rX0_readSpan (G : GT) (d : Nat) (av : List Value) (S : St) (r : Option Value) (S' : St) : Prop := Runs G d yX0_readSpan cX0_readSpan 2 (some .boolean) av S r S'
theorem cv_X0_readSpan (hX : XC X G d own cc nL) {a0 : Value} {v : Int32} (hml : Cond.methodLink own idx yX0_readSpan ∈ gtbl) (hd : decode cc pc = .ok (.invokevirtual idx, 3)) (hr : rX0_readSpan G d [.ref (gad G 1), a0] S (some (.int v)) S') (hst : (st.map fun v => v.category).sum ≤ 8) (k : AW X G (pc + 3) L (.int v :: st) S') : AW X G pc L (a0 :: .ref (gad G 1) :: st) S :=
  ac_V hX (As := [a0]) (C := RX0) hd hml ky_X0_readSpan im_yX0_readSpan se_yX0_readSpan hr rfl rfl rfl hst rfl k
theorem ky_X3_isFull : KY yX3_isFull cX3_isFull 1 (some .boolean) 0 := ⟨in_X3, co_yX3_isFull, by decide +kernel, by decide⟩
abbrev rX3_isFull (G : GT) (d : Nat) (av : List Value) (S : St) (r : Option Value) (S' : St) : Prop := Runs G d yX3_isFull cX3_isFull 1 (some .boolean) av S r S'
theorem cv_X3_isFull (hX : XC X G d own cc nL) {v : Int32} (hml : Cond.methodLink own idx yX3_isFull ∈ gtbl) (hd : decode cc pc = .ok (.invokevirtual idx, 3)) (hr : rX3_isFull G d [.ref (gad G 2)] S (some (.int v)) S') (hst : (st.map fun v => v.category).sum ≤ 8) (k : AW X G (pc + 3) L (.int v :: st) S') : AW X G pc L (.ref (gad G 2) :: st) S :=
  ac_V hX (As := []) (C := RX3) hd hml ky_X3_isFull im_yX3_isFull se_yX3_isFull hr rfl rfl rfl hst rfl k
theorem ky_X3_add : KY yX3_add cX3_add 5 (some .int) 2 := ⟨in_X3, co_yX3_add, by decide +kernel, by decide⟩
abbrev rX3_add (G : GT) (d : Nat) (av : List Value) (S : St) (r : Option Value) (S' : St) : Prop := Runs G d yX3_add cX3_add 5 (some .int) av S r S'
theorem cv_X3_add (hX : XC X G d own cc nL) {a0 a1 : Value} {v : Int32} (hml : Cond.methodLink own idx yX3_add ∈ gtbl) (hd : decode cc pc = .ok (.invokevirtual idx, 3)) (hr : rX3_add G d [.ref (gad G 2), a0, a1] S (some (.int v)) S') (hst : (st.map fun v => v.category).sum ≤ 8) (k : AW X G (pc + 3) L (.int v :: st) S') : AW X G pc L (a1 :: a0 :: .ref (gad G 2) :: st) S :=
  ac_V hX (As := [a0, a1]) (C := RX3) hd hml ky_X3_add im_yX3_add se_yX3_add hr rfl rfl rfl hst rfl k
theorem ky_X7_span : KY yX7_span cX7_span 3 (some .int) 2 := ⟨in_X7, co_yX7_span, by decide +kernel, by decide⟩
abbrev rX7_span (G : GT) (d : Nat) (av : List Value) (S : St) (r : Option Value) (S' : St) : Prop := Runs G d yX7_span cX7_span 3 (some .int) av S r S'
theorem cv_X7_span (hX : XC X G d own cc nL) {a0 a1 : Value} {v : Int32} (hml : Cond.methodLink own idx yX7_span ∈ gtbl) (hd : decode cc pc = .ok (.invokevirtual idx, 3)) (hr : rX7_span G d [.ref (gad G 0), a0, a1] S (some (.int v)) S') (hst : (st.map fun v => v.category).sum ≤ 8) (k : AW X G (pc + 3) L (.int v :: st) S') : AW X G pc L (a1 :: a0 :: .ref (gad G 0) :: st) S :=
  ac_V hX (As := [a0, a1]) (C := RX7) hd hml ky_X7_span im_yX7_span se_yX7_span hr rfl rfl rfl hst rfl k
theorem ky_X3_spanOn : KY yX3_spanOn cX3_spanOn 5 (some .int) 2 := ⟨in_X3, co_yX3_spanOn, by decide +kernel, by decide⟩
abbrev rX3_spanOn (G : GT) (d : Nat) (av : List Value) (S : St) (r : Option Value) (S' : St) : Prop := Runs G d yX3_spanOn cX3_spanOn 5 (some .int) av S r S'
theorem cv_X3_spanOn (hX : XC X G d own cc nL) {a0 a1 : Value} {v : Int32} (hml : Cond.methodLink own idx yX3_spanOn ∈ gtbl) (hd : decode cc pc = .ok (.invokevirtual idx, 3)) (hr : rX3_spanOn G d [.ref (gad G 2), a0, a1] S (some (.int v)) S') (hst : (st.map fun v => v.category).sum ≤ 8) (k : AW X G (pc + 3) L (.int v :: st) S') : AW X G pc L (a1 :: a0 :: .ref (gad G 2) :: st) S :=
  ac_V hX (As := [a0, a1]) (C := RX3) hd hml ky_X3_spanOn im_yX3_spanOn se_yX3_spanOn hr rfl rfl rfl hst rfl k
theorem ky_X3_inForce : KY yX3_inForce cX3_inForce 3 (some .int) 1 := ⟨in_X3, co_yX3_inForce, by decide +kernel, by decide⟩
abbrev rX3_inForce (G : GT) (d : Nat) (av : List Value) (S : St) (r : Option Value) (S' : St) : Prop := Runs G d yX3_inForce cX3_inForce 3 (some .int) av S r S'
theorem cv_X3_inForce (hX : XC X G d own cc nL) {a0 : Value} {v : Int32} (hml : Cond.methodLink own idx yX3_inForce ∈ gtbl) (hd : decode cc pc = .ok (.invokevirtual idx, 3)) (hr : rX3_inForce G d [.ref (gad G 2), a0] S (some (.int v)) S') (hst : (st.map fun v => v.category).sum ≤ 8) (k : AW X G (pc + 3) L (.int v :: st) S') : AW X G pc L (a0 :: .ref (gad G 2) :: st) S :=
  ac_V hX (As := [a0]) (C := RX3) hd hml ky_X3_inForce im_yX3_inForce se_yX3_inForce hr rfl rfl rfl hst rfl k
theorem ky_X7_days : KY yX7_days cX7_days 2 (some .int) 1 := ⟨in_X7, co_yX7_days, by decide +kernel, by decide⟩
abbrev rX7_days (G : GT) (d : Nat) (av : List Value) (S : St) (r : Option Value) (S' : St) : Prop := Runs G d yX7_days cX7_days 2 (some .int) av S r S'
theorem cv_X7_days (hX : XC X G d own cc nL) {a0 : Value} {v : Int32} (hml : Cond.methodLink own idx yX7_days ∈ gtbl) (hd : decode cc pc = .ok (.invokevirtual idx, 3)) (hr : rX7_days G d [.ref (gad G 0), a0] S (some (.int v)) S') (hst : (st.map fun v => v.category).sum ≤ 8) (k : AW X G (pc + 3) L (.int v :: st) S') : AW X G pc L (a0 :: .ref (gad G 0) :: st) S :=
  ac_V hX (As := [a0]) (C := RX7) hd hml ky_X7_days im_yX7_days se_yX7_days hr rfl rfl rfl hst rfl k
theorem ky_X7_flue : KY yX7_flue cX7_flue 9 (some .int) 8 := ⟨in_X7, co_yX7_flue, by decide +kernel, by decide⟩
abbrev rX7_flue (G : GT) (d : Nat) (av : List Value) (S : St) (r : Option Value) (S' : St) : Prop := Runs G d yX7_flue cX7_flue 9 (some .int) av S r S'
theorem cv_X7_flue (hX : XC X G d own cc nL) {a0 a1 a2 a3 a4 a5 a6 a7 : Value} {v : Int32} (hml : Cond.methodLink own idx yX7_flue ∈ gtbl) (hd : decode cc pc = .ok (.invokevirtual idx, 3)) (hr : rX7_flue G d [.ref (gad G 0), a0, a1, a2, a3, a4, a5, a6, a7] S (some (.int v)) S') (hst : (st.map fun v => v.category).sum ≤ 8) (k : AW X G (pc + 3) L (.int v :: st) S') : AW X G pc L (a7 :: a6 :: a5 :: a4 :: a3 :: a2 :: a1 :: a0 :: .ref (gad G 0) :: st) S :=
  ac_V hX (As := [a0, a1, a2, a3, a4, a5, a6, a7]) (C := RX7) hd hml ky_X7_flue im_yX7_flue se_yX7_flue hr rfl rfl rfl hst rfl k
theorem ky_X7_isBody : KY yX7_isBody cX7_isBody 5 (some .boolean) 5 := ⟨in_X7, co_yX7_isBody, by decide +kernel, by decide⟩
abbrev rX7_isBody (G : GT) (d : Nat) (av : List Value) (S : St) (r : Option Value) (S' : St) : Prop := Runs G d yX7_isBody cX7_isBody 5 (some .boolean) av S r S'
theorem cs_X7_isBody (hX : XC X G d own cc nL) {a0 a1 a2 a3 a4 : Value} {v : Int32} (hml : Cond.methodLink own idx yX7_isBody ∈ gtbl) (hd : decode cc pc = .ok (.invokestatic idx, 3)) (hr : rX7_isBody G d [a0, a1, a2, a3, a4] S (some (.int v)) S') (hst : (st.map fun v => v.category).sum ≤ 8) (k : AW X G (pc + 3) L (.int v :: st) S') : AW X G pc L (a4 :: a3 :: a2 :: a1 :: a0 :: st) S :=
  ac_S hX (As := [a0, a1, a2, a3, a4]) hd hml ky_X7_isBody sm_yX7_isBody hr rfl hst rfl k
theorem ky_X7_isPlace : KY yX7_isPlace cX7_isPlace 2 (some .boolean) 2 := ⟨in_X7, co_yX7_isPlace, by decide +kernel, by decide⟩
abbrev rX7_isPlace (G : GT) (d : Nat) (av : List Value) (S : St) (r : Option Value) (S' : St) : Prop := Runs G d yX7_isPlace cX7_isPlace 2 (some .boolean) av S r S'
theorem cs_X7_isPlace (hX : XC X G d own cc nL) {a0 a1 : Value} {v : Int32} (hml : Cond.methodLink own idx yX7_isPlace ∈ gtbl) (hd : decode cc pc = .ok (.invokestatic idx, 3)) (hr : rX7_isPlace G d [a0, a1] S (some (.int v)) S') (hst : (st.map fun v => v.category).sum ≤ 8) (k : AW X G (pc + 3) L (.int v :: st) S') : AW X G pc L (a1 :: a0 :: st) S :=
  ac_S hX (As := [a0, a1]) hd hml ky_X7_isPlace sm_yX7_isPlace hr rfl hst rfl k
theorem ky_X7_isHand : KY yX7_isHand cX7_isHand 1 (some .boolean) 1 := ⟨in_X7, co_yX7_isHand, by decide +kernel, by decide⟩
abbrev rX7_isHand (G : GT) (d : Nat) (av : List Value) (S : St) (r : Option Value) (S' : St) : Prop := Runs G d yX7_isHand cX7_isHand 1 (some .boolean) av S r S'
theorem cs_X7_isHand (hX : XC X G d own cc nL) {a0 : Value} {v : Int32} (hml : Cond.methodLink own idx yX7_isHand ∈ gtbl) (hd : decode cc pc = .ok (.invokestatic idx, 3)) (hr : rX7_isHand G d [a0] S (some (.int v)) S') (hst : (st.map fun v => v.category).sum ≤ 8) (k : AW X G (pc + 3) L (.int v :: st) S') : AW X G pc L (a0 :: st) S :=
  ac_S hX (As := [a0]) hd hml ky_X7_isHand sm_yX7_isHand hr rfl hst rfl k
theorem ky_X2_isFull : KY yX2_isFull cX2_isFull 1 (some .boolean) 0 := ⟨in_X2, co_yX2_isFull, by decide +kernel, by decide⟩
abbrev rX2_isFull (G : GT) (d : Nat) (av : List Value) (S : St) (r : Option Value) (S' : St) : Prop := Runs G d yX2_isFull cX2_isFull 1 (some .boolean) av S r S'
theorem cv_X2_isFull (hX : XC X G d own cc nL) {v : Int32} (hml : Cond.methodLink own idx yX2_isFull ∈ gtbl) (hd : decode cc pc = .ok (.invokevirtual idx, 3)) (hr : rX2_isFull G d [.ref (gad G 3)] S (some (.int v)) S') (hst : (st.map fun v => v.category).sum ≤ 8) (k : AW X G (pc + 3) L (.int v :: st) S') : AW X G pc L (.ref (gad G 3) :: st) S :=
  ac_V hX (As := []) (C := RX2) hd hml ky_X2_isFull im_yX2_isFull se_yX2_isFull hr rfl rfl rfl hst rfl k
theorem ky_X2_setBody : KY yX2_setBody cX2_setBody 6 none 5 := ⟨in_X2, co_yX2_setBody, by decide +kernel, by decide⟩
abbrev rX2_setBody (G : GT) (d : Nat) (av : List Value) (S : St) (r : Option Value) (S' : St) : Prop := Runs G d yX2_setBody cX2_setBody 6 none av S r S'
theorem cv_X2_setBody (hX : XC X G d own cc nL) {a0 a1 a2 a3 a4 : Value} (hml : Cond.methodLink own idx yX2_setBody ∈ gtbl) (hd : decode cc pc = .ok (.invokevirtual idx, 3)) (hr : rX2_setBody G d [.ref (gad G 3), a0, a1, a2, a3, a4] S none S') (hst : (st.map fun v => v.category).sum ≤ 8) (k : AW X G (pc + 3) L (st) S') : AW X G pc L (a4 :: a3 :: a2 :: a1 :: a0 :: .ref (gad G 3) :: st) S :=
  ac_V hX (As := [a0, a1, a2, a3, a4]) (C := RX2) hd hml ky_X2_setBody im_yX2_setBody se_yX2_setBody hr rfl rfl rfl hst rfl k
theorem ky_X2_setPlace : KY yX2_setPlace cX2_setPlace 5 none 4 := ⟨in_X2, co_yX2_setPlace, by decide +kernel, by decide⟩
abbrev rX2_setPlace (G : GT) (d : Nat) (av : List Value) (S : St) (r : Option Value) (S' : St) : Prop := Runs G d yX2_setPlace cX2_setPlace 5 none av S r S'
theorem cv_X2_setPlace (hX : XC X G d own cc nL) {a0 a1 a2 a3 : Value} (hml : Cond.methodLink own idx yX2_setPlace ∈ gtbl) (hd : decode cc pc = .ok (.invokevirtual idx, 3)) (hr : rX2_setPlace G d [.ref (gad G 3), a0, a1, a2, a3] S none S') (hst : (st.map fun v => v.category).sum ≤ 8) (k : AW X G (pc + 3) L (st) S') : AW X G pc L (a3 :: a2 :: a1 :: a0 :: .ref (gad G 3) :: st) S :=
  ac_V hX (As := [a0, a1, a2, a3]) (C := RX2) hd hml ky_X2_setPlace im_yX2_setPlace se_yX2_setPlace hr rfl rfl rfl hst rfl k
theorem ky_X2_add : KY yX2_add cX2_add 1 (some .int) 0 := ⟨in_X2, co_yX2_add, by decide +kernel, by decide⟩
abbrev rX2_add (G : GT) (d : Nat) (av : List Value) (S : St) (r : Option Value) (S' : St) : Prop := Runs G d yX2_add cX2_add 1 (some .int) av S r S'
theorem cv_X2_add (hX : XC X G d own cc nL) {v : Int32} (hml : Cond.methodLink own idx yX2_add ∈ gtbl) (hd : decode cc pc = .ok (.invokevirtual idx, 3)) (hr : rX2_add G d [.ref (gad G 3)] S (some (.int v)) S') (hst : (st.map fun v => v.category).sum ≤ 8) (k : AW X G (pc + 3) L (.int v :: st) S') : AW X G pc L (.ref (gad G 3) :: st) S :=
  ac_V hX (As := []) (C := RX2) hd hml ky_X2_add im_yX2_add se_yX2_add hr rfl rfl rfl hst rfl k
theorem ky_X7_draught : KY yX7_draught cX7_draught 2 (some .int) 1 := ⟨in_X7, co_yX7_draught, by decide +kernel, by decide⟩
abbrev rX7_draught (G : GT) (d : Nat) (av : List Value) (S : St) (r : Option Value) (S' : St) : Prop := Runs G d yX7_draught cX7_draught 2 (some .int) av S r S'
theorem cv_X7_draught (hX : XC X G d own cc nL) {a0 : Value} {v : Int32} (hml : Cond.methodLink own idx yX7_draught ∈ gtbl) (hd : decode cc pc = .ok (.invokevirtual idx, 3)) (hr : rX7_draught G d [.ref (gad G 0), a0] S (some (.int v)) S') (hst : (st.map fun v => v.category).sum ≤ 8) (k : AW X G (pc + 3) L (.int v :: st) S') : AW X G pc L (a0 :: .ref (gad G 0) :: st) S :=
  ac_V hX (As := [a0]) (C := RX7) hd hml ky_X7_draught im_yX7_draught se_yX7_draught hr rfl rfl rfl hst rfl k
theorem ky_X2_has : KY yX2_has cX2_has 2 (some .boolean) 1 := ⟨in_X2, co_yX2_has, by decide +kernel, by decide⟩
abbrev rX2_has (G : GT) (d : Nat) (av : List Value) (S : St) (r : Option Value) (S' : St) : Prop := Runs G d yX2_has cX2_has 2 (some .boolean) av S r S'
theorem cv_X2_has (hX : XC X G d own cc nL) {a0 : Value} {v : Int32} (hml : Cond.methodLink own idx yX2_has ∈ gtbl) (hd : decode cc pc = .ok (.invokevirtual idx, 3)) (hr : rX2_has G d [.ref (gad G 3), a0] S (some (.int v)) S') (hst : (st.map fun v => v.category).sum ≤ 8) (k : AW X G (pc + 3) L (.int v :: st) S') : AW X G pc L (a0 :: .ref (gad G 3) :: st) S :=
  ac_V hX (As := [a0]) (C := RX2) hd hml ky_X2_has im_yX2_has se_yX2_has hr rfl rfl rfl hst rfl k
theorem ky_X7_straightPull : KY yX7_straightPull cX7_straightPull 2 (some .int) 1 := ⟨in_X7, co_yX7_straightPull, by decide +kernel, by decide⟩
abbrev rX7_straightPull (G : GT) (d : Nat) (av : List Value) (S : St) (r : Option Value) (S' : St) : Prop := Runs G d yX7_straightPull cX7_straightPull 2 (some .int) av S r S'
theorem cv_X7_straightPull (hX : XC X G d own cc nL) {a0 : Value} {v : Int32} (hml : Cond.methodLink own idx yX7_straightPull ∈ gtbl) (hd : decode cc pc = .ok (.invokevirtual idx, 3)) (hr : rX7_straightPull G d [.ref (gad G 0), a0] S (some (.int v)) S') (hst : (st.map fun v => v.category).sum ≤ 8) (k : AW X G (pc + 3) L (.int v :: st) S') : AW X G pc L (a0 :: .ref (gad G 0) :: st) S :=
  ac_V hX (As := [a0]) (C := RX7) hd hml ky_X7_straightPull im_yX7_straightPull se_yX7_straightPull hr rfl rfl rfl hst rfl k
theorem ky_X2_openPull : KY yX2_openPull cX2_openPull 3 (some .int) 1 := ⟨in_X2, co_yX2_openPull, by decide +kernel, by decide⟩
abbrev rX2_openPull (G : GT) (d : Nat) (av : List Value) (S : St) (r : Option Value) (S' : St) : Prop := Runs G d yX2_openPull cX2_openPull 3 (some .int) av S r S'
theorem cv_X2_openPull (hX : XC X G d own cc nL) {a0 : Value} {v : Int32} (hml : Cond.methodLink own idx yX2_openPull ∈ gtbl) (hd : decode cc pc = .ok (.invokevirtual idx, 3)) (hr : rX2_openPull G d [.ref (gad G 3), a0] S (some (.int v)) S') (hst : (st.map fun v => v.category).sum ≤ 8) (k : AW X G (pc + 3) L (.int v :: st) S') : AW X G pc L (a0 :: .ref (gad G 3) :: st) S :=
  ac_V hX (As := [a0]) (C := RX2) hd hml ky_X2_openPull im_yX2_openPull se_yX2_openPull hr rfl rfl rfl hst rfl k
theorem ky_X7_bentPull : KY yX7_bentPull cX7_bentPull 2 (some .int) 1 := ⟨in_X7, co_yX7_bentPull, by decide +kernel, by decide⟩
abbrev rX7_bentPull (G : GT) (d : Nat) (av : List Value) (S : St) (r : Option Value) (S' : St) : Prop := Runs G d yX7_bentPull cX7_bentPull 2 (some .int) av S r S'
theorem cv_X7_bentPull (hX : XC X G d own cc nL) {a0 : Value} {v : Int32} (hml : Cond.methodLink own idx yX7_bentPull ∈ gtbl) (hd : decode cc pc = .ok (.invokevirtual idx, 3)) (hr : rX7_bentPull G d [.ref (gad G 0), a0] S (some (.int v)) S') (hst : (st.map fun v => v.category).sum ≤ 8) (k : AW X G (pc + 3) L (.int v :: st) S') : AW X G pc L (a0 :: .ref (gad G 0) :: st) S :=
  ac_V hX (As := [a0]) (C := RX7) hd hml ky_X7_bentPull im_yX7_bentPull se_yX7_bentPull hr rfl rfl rfl hst rfl k
theorem ky_X7_sharedPull : KY yX7_sharedPull cX7_sharedPull 2 (some .int) 1 := ⟨in_X7, co_yX7_sharedPull, by decide +kernel, by decide⟩
abbrev rX7_sharedPull (G : GT) (d : Nat) (av : List Value) (S : St) (r : Option Value) (S' : St) : Prop := Runs G d yX7_sharedPull cX7_sharedPull 2 (some .int) av S r S'
theorem cv_X7_sharedPull (hX : XC X G d own cc nL) {a0 : Value} {v : Int32} (hml : Cond.methodLink own idx yX7_sharedPull ∈ gtbl) (hd : decode cc pc = .ok (.invokevirtual idx, 3)) (hr : rX7_sharedPull G d [.ref (gad G 0), a0] S (some (.int v)) S') (hst : (st.map fun v => v.category).sum ≤ 8) (k : AW X G (pc + 3) L (.int v :: st) S') : AW X G pc L (a0 :: .ref (gad G 0) :: st) S :=
  ac_V hX (As := [a0]) (C := RX7) hd hml ky_X7_sharedPull im_yX7_sharedPull se_yX7_sharedPull hr rfl rfl rfl hst rfl k
theorem ky_X7_about : KY yX7_about cX7_about 3 (some .int) 2 := ⟨in_X7, co_yX7_about, by decide +kernel, by decide⟩
abbrev rX7_about (G : GT) (d : Nat) (av : List Value) (S : St) (r : Option Value) (S' : St) : Prop := Runs G d yX7_about cX7_about 3 (some .int) av S r S'
theorem cv_X7_about (hX : XC X G d own cc nL) {a0 a1 : Value} {v : Int32} (hml : Cond.methodLink own idx yX7_about ∈ gtbl) (hd : decode cc pc = .ok (.invokevirtual idx, 3)) (hr : rX7_about G d [.ref (gad G 0), a0, a1] S (some (.int v)) S') (hst : (st.map fun v => v.category).sum ≤ 8) (k : AW X G (pc + 3) L (.int v :: st) S') : AW X G pc L (a1 :: a0 :: .ref (gad G 0) :: st) S :=
  ac_V hX (As := [a0, a1]) (C := RX7) hd hml ky_X7_about im_yX7_about se_yX7_about hr rfl rfl rfl hst rfl k
theorem ky_X7_sweptBy : KY yX7_sweptBy cX7_sweptBy 4 (some .int) 2 := ⟨in_X7, co_yX7_sweptBy, by decide +kernel, by decide⟩
abbrev rX7_sweptBy (G : GT) (d : Nat) (av : List Value) (S : St) (r : Option Value) (S' : St) : Prop := Runs G d yX7_sweptBy cX7_sweptBy 4 (some .int) av S r S'
theorem cv_X7_sweptBy (hX : XC X G d own cc nL) {a0 a1 : Value} {v : Int32} (hml : Cond.methodLink own idx yX7_sweptBy ∈ gtbl) (hd : decode cc pc = .ok (.invokevirtual idx, 3)) (hr : rX7_sweptBy G d [.ref (gad G 0), a0, a1] S (some (.int v)) S') (hst : (st.map fun v => v.category).sum ≤ 8) (k : AW X G (pc + 3) L (.int v :: st) S') : AW X G pc L (a1 :: a0 :: .ref (gad G 0) :: st) S :=
  ac_V hX (As := [a0, a1]) (C := RX7) hd hml ky_X7_sweptBy im_yX7_sweptBy se_yX7_sweptBy hr rfl rfl rfl hst rfl k
theorem ky_X5_latest : KY yX5_latest cX5_latest 4 (some .int) 2 := ⟨in_X5, co_yX5_latest, by decide +kernel, by decide⟩
abbrev rX5_latest (G : GT) (d : Nat) (av : List Value) (S : St) (r : Option Value) (S' : St) : Prop := Runs G d yX5_latest cX5_latest 4 (some .int) av S r S'
theorem cv_X5_latest (hX : XC X G d own cc nL) {a0 a1 : Value} {v : Int32} (hml : Cond.methodLink own idx yX5_latest ∈ gtbl) (hd : decode cc pc = .ok (.invokevirtual idx, 3)) (hr : rX5_latest G d [.ref (gad G 6), a0, a1] S (some (.int v)) S') (hst : (st.map fun v => v.category).sum ≤ 8) (k : AW X G (pc + 3) L (.int v :: st) S') : AW X G pc L (a1 :: a0 :: .ref (gad G 6) :: st) S :=
  ac_V hX (As := [a0, a1]) (C := RX5) hd hml ky_X5_latest im_yX5_latest se_yX5_latest hr rfl rfl rfl hst rfl k
theorem ky_X7_isForbidden : KY yX7_isForbidden cX7_isForbidden 2 (some .boolean) 1 := ⟨in_X7, co_yX7_isForbidden, by decide +kernel, by decide⟩
abbrev rX7_isForbidden (G : GT) (d : Nat) (av : List Value) (S : St) (r : Option Value) (S' : St) : Prop := Runs G d yX7_isForbidden cX7_isForbidden 2 (some .boolean) av S r S'
theorem cv_X7_isForbidden (hX : XC X G d own cc nL) {a0 : Value} {v : Int32} (hml : Cond.methodLink own idx yX7_isForbidden ∈ gtbl) (hd : decode cc pc = .ok (.invokevirtual idx, 3)) (hr : rX7_isForbidden G d [.ref (gad G 0), a0] S (some (.int v)) S') (hst : (st.map fun v => v.category).sum ≤ 8) (k : AW X G (pc + 3) L (.int v :: st) S') : AW X G pc L (a0 :: .ref (gad G 0) :: st) S :=
  ac_V hX (As := [a0]) (C := RX7) hd hml ky_X7_isForbidden im_yX7_isForbidden se_yX7_isForbidden hr rfl rfl rfl hst rfl k
theorem ky_X4_asKnown : KY yX4_asKnown cX4_asKnown 7 (some .int) 2 := ⟨in_X4, co_yX4_asKnown, by decide +kernel, by decide⟩
abbrev rX4_asKnown (G : GT) (d : Nat) (av : List Value) (S : St) (r : Option Value) (S' : St) : Prop := Runs G d yX4_asKnown cX4_asKnown 7 (some .int) av S r S'
theorem cv_X4_asKnown (hX : XC X G d own cc nL) {a0 a1 : Value} {v : Int32} (hml : Cond.methodLink own idx yX4_asKnown ∈ gtbl) (hd : decode cc pc = .ok (.invokevirtual idx, 3)) (hr : rX4_asKnown G d [.ref (gad G 4), a0, a1] S (some (.int v)) S') (hst : (st.map fun v => v.category).sum ≤ 8) (k : AW X G (pc + 3) L (.int v :: st) S') : AW X G pc L (a1 :: a0 :: .ref (gad G 4) :: st) S :=
  ac_V hX (As := [a0, a1]) (C := RX4) hd hml ky_X4_asKnown im_yX4_asKnown se_yX4_asKnown hr rfl rfl rfl hst rfl k
theorem ky_X7_asNumber : KY yX7_asNumber cX7_asNumber 1 (some .int) 1 := ⟨in_X7, co_yX7_asNumber, by decide +kernel, by decide⟩
abbrev rX7_asNumber (G : GT) (d : Nat) (av : List Value) (S : St) (r : Option Value) (S' : St) : Prop := Runs G d yX7_asNumber cX7_asNumber 1 (some .int) av S r S'
theorem cs_X7_asNumber (hX : XC X G d own cc nL) {a0 : Value} {v : Int32} (hml : Cond.methodLink own idx yX7_asNumber ∈ gtbl) (hd : decode cc pc = .ok (.invokestatic idx, 3)) (hr : rX7_asNumber G d [a0] S (some (.int v)) S') (hst : (st.map fun v => v.category).sum ≤ 8) (k : AW X G (pc + 3) L (.int v :: st) S') : AW X G pc L (a0 :: st) S :=
  ac_S hX (As := [a0]) hd hml ky_X7_asNumber sm_yX7_asNumber hr rfl hst rfl k
theorem ky_X7_doerOf : KY yX7_doerOf cX7_doerOf 4 (some .int) 1 := ⟨in_X7, co_yX7_doerOf, by decide +kernel, by decide⟩
abbrev rX7_doerOf (G : GT) (d : Nat) (av : List Value) (S : St) (r : Option Value) (S' : St) : Prop := Runs G d yX7_doerOf cX7_doerOf 4 (some .int) av S r S'
theorem cv_X7_doerOf (hX : XC X G d own cc nL) {a0 : Value} {v : Int32} (hml : Cond.methodLink own idx yX7_doerOf ∈ gtbl) (hd : decode cc pc = .ok (.invokevirtual idx, 3)) (hr : rX7_doerOf G d [.ref (gad G 0), a0] S (some (.int v)) S') (hst : (st.map fun v => v.category).sum ≤ 8) (k : AW X G (pc + 3) L (.int v :: st) S') : AW X G pc L (a0 :: .ref (gad G 0) :: st) S :=
  ac_V hX (As := [a0]) (C := RX7) hd hml ky_X7_doerOf im_yX7_doerOf se_yX7_doerOf hr rfl rfl rfl hst rfl k
theorem ky_X7_nearestHand : KY yX7_nearestHand cX7_nearestHand 7 (some .int) 1 := ⟨in_X7, co_yX7_nearestHand, by decide +kernel, by decide⟩
abbrev rX7_nearestHand (G : GT) (d : Nat) (av : List Value) (S : St) (r : Option Value) (S' : St) : Prop := Runs G d yX7_nearestHand cX7_nearestHand 7 (some .int) av S r S'
theorem cv_X7_nearestHand (hX : XC X G d own cc nL) {a0 : Value} {v : Int32} (hml : Cond.methodLink own idx yX7_nearestHand ∈ gtbl) (hd : decode cc pc = .ok (.invokevirtual idx, 3)) (hr : rX7_nearestHand G d [.ref (gad G 0), a0] S (some (.int v)) S') (hst : (st.map fun v => v.category).sum ≤ 8) (k : AW X G (pc + 3) L (.int v :: st) S') : AW X G pc L (a0 :: .ref (gad G 0) :: st) S :=
  ac_V hX (As := [a0]) (C := RX7) hd hml ky_X7_nearestHand im_yX7_nearestHand se_yX7_nearestHand hr rfl rfl rfl hst rfl k
theorem ky_X2_wayBetween : KY yX2_wayBetween cX2_wayBetween 3 (some .int) 2 := ⟨in_X2, co_yX2_wayBetween, by decide +kernel, by decide⟩
abbrev rX2_wayBetween (G : GT) (d : Nat) (av : List Value) (S : St) (r : Option Value) (S' : St) : Prop := Runs G d yX2_wayBetween cX2_wayBetween 3 (some .int) av S r S'
theorem cv_X2_wayBetween (hX : XC X G d own cc nL) {a0 a1 : Value} {v : Int32} (hml : Cond.methodLink own idx yX2_wayBetween ∈ gtbl) (hd : decode cc pc = .ok (.invokevirtual idx, 3)) (hr : rX2_wayBetween G d [.ref (gad G 3), a0, a1] S (some (.int v)) S') (hst : (st.map fun v => v.category).sum ≤ 8) (k : AW X G (pc + 3) L (.int v :: st) S') : AW X G pc L (a1 :: a0 :: .ref (gad G 3) :: st) S :=
  ac_V hX (As := [a0, a1]) (C := RX2) hd hml ky_X2_wayBetween im_yX2_wayBetween se_yX2_wayBetween hr rfl rfl rfl hst rfl k
theorem ky_X7_leastHandNotIll : KY yX7_leastHandNotIll cX7_leastHandNotIll 2 (some .int) 0 := ⟨in_X7, co_yX7_leastHandNotIll, by decide +kernel, by decide⟩
abbrev rX7_leastHandNotIll (G : GT) (d : Nat) (av : List Value) (S : St) (r : Option Value) (S' : St) : Prop := Runs G d yX7_leastHandNotIll cX7_leastHandNotIll 2 (some .int) av S r S'
theorem cv_X7_leastHandNotIll (hX : XC X G d own cc nL) {v : Int32} (hml : Cond.methodLink own idx yX7_leastHandNotIll ∈ gtbl) (hd : decode cc pc = .ok (.invokevirtual idx, 3)) (hr : rX7_leastHandNotIll G d [.ref (gad G 0)] S (some (.int v)) S') (hst : (st.map fun v => v.category).sum ≤ 8) (k : AW X G (pc + 3) L (.int v :: st) S') : AW X G pc L (.ref (gad G 0) :: st) S :=
  ac_V hX (As := []) (C := RX7) hd hml ky_X7_leastHandNotIll im_yX7_leastHandNotIll se_yX7_leastHandNotIll hr rfl rfl rfl hst rfl k
theorem ky_X7_due : KY yX7_due cX7_due 2 (some .int) 1 := ⟨in_X7, co_yX7_due, by decide +kernel, by decide⟩
abbrev rX7_due (G : GT) (d : Nat) (av : List Value) (S : St) (r : Option Value) (S' : St) : Prop := Runs G d yX7_due cX7_due 2 (some .int) av S r S'
theorem cv_X7_due (hX : XC X G d own cc nL) {a0 : Value} {v : Int32} (hml : Cond.methodLink own idx yX7_due ∈ gtbl) (hd : decode cc pc = .ok (.invokevirtual idx, 3)) (hr : rX7_due G d [.ref (gad G 0), a0] S (some (.int v)) S') (hst : (st.map fun v => v.category).sum ≤ 8) (k : AW X G (pc + 3) L (.int v :: st) S') : AW X G pc L (a0 :: .ref (gad G 0) :: st) S :=
  ac_V hX (As := [a0]) (C := RX7) hd hml ky_X7_due im_yX7_due se_yX7_due hr rfl rfl rfl hst rfl k
theorem ky_X7_dueOf : KY yX7_dueOf cX7_dueOf 2 (some .int) 1 := ⟨in_X7, co_yX7_dueOf, by decide +kernel, by decide⟩
abbrev rX7_dueOf (G : GT) (d : Nat) (av : List Value) (S : St) (r : Option Value) (S' : St) : Prop := Runs G d yX7_dueOf cX7_dueOf 2 (some .int) av S r S'
theorem cv_X7_dueOf (hX : XC X G d own cc nL) {a0 : Value} {v : Int32} (hml : Cond.methodLink own idx yX7_dueOf ∈ gtbl) (hd : decode cc pc = .ok (.invokevirtual idx, 3)) (hr : rX7_dueOf G d [.ref (gad G 0), a0] S (some (.int v)) S') (hst : (st.map fun v => v.category).sum ≤ 8) (k : AW X G (pc + 3) L (.int v :: st) S') : AW X G pc L (a0 :: .ref (gad G 0) :: st) S :=
  ac_V hX (As := [a0]) (C := RX7) hd hml ky_X7_dueOf im_yX7_dueOf se_yX7_dueOf hr rfl rfl rfl hst rfl k
theorem ky_X3_firstDue : KY yX3_firstDue cX3_firstDue 4 (some .int) 2 := ⟨in_X3, co_yX3_firstDue, by decide +kernel, by decide⟩
abbrev rX3_firstDue (G : GT) (d : Nat) (av : List Value) (S : St) (r : Option Value) (S' : St) : Prop := Runs G d yX3_firstDue cX3_firstDue 4 (some .int) av S r S'
theorem cv_X3_firstDue (hX : XC X G d own cc nL) {a0 a1 : Value} {v : Int32} (hml : Cond.methodLink own idx yX3_firstDue ∈ gtbl) (hd : decode cc pc = .ok (.invokevirtual idx, 3)) (hr : rX3_firstDue G d [.ref (gad G 2), a0, a1] S (some (.int v)) S') (hst : (st.map fun v => v.category).sum ≤ 8) (k : AW X G (pc + 3) L (.int v :: st) S') : AW X G pc L (a1 :: a0 :: .ref (gad G 2) :: st) S :=
  ac_V hX (As := [a0, a1]) (C := RX3) hd hml ky_X3_firstDue im_yX3_firstDue se_yX3_firstDue hr rfl rfl rfl hst rfl k
theorem ky_X7_beyond : KY yX7_beyond cX7_beyond 3 (some .int) 0 := ⟨in_X7, co_yX7_beyond, by decide +kernel, by decide⟩
abbrev rX7_beyond (G : GT) (d : Nat) (av : List Value) (S : St) (r : Option Value) (S' : St) : Prop := Runs G d yX7_beyond cX7_beyond 3 (some .int) av S r S'
theorem cv_X7_beyond (hX : XC X G d own cc nL) {v : Int32} (hml : Cond.methodLink own idx yX7_beyond ∈ gtbl) (hd : decode cc pc = .ok (.invokevirtual idx, 3)) (hr : rX7_beyond G d [.ref (gad G 0)] S (some (.int v)) S') (hst : (st.map fun v => v.category).sum ≤ 8) (k : AW X G (pc + 3) L (.int v :: st) S') : AW X G pc L (.ref (gad G 0) :: st) S :=
  ac_V hX (As := []) (C := RX7) hd hml ky_X7_beyond im_yX7_beyond se_yX7_beyond hr rfl rfl rfl hst rfl k
theorem ky_X7_wasBeyond : KY yX7_wasBeyond cX7_wasBeyond 3 (some .boolean) 2 := ⟨in_X7, co_yX7_wasBeyond, by decide +kernel, by decide⟩
abbrev rX7_wasBeyond (G : GT) (d : Nat) (av : List Value) (S : St) (r : Option Value) (S' : St) : Prop := Runs G d yX7_wasBeyond cX7_wasBeyond 3 (some .boolean) av S r S'
theorem cv_X7_wasBeyond (hX : XC X G d own cc nL) {a0 a1 : Value} {v : Int32} (hml : Cond.methodLink own idx yX7_wasBeyond ∈ gtbl) (hd : decode cc pc = .ok (.invokevirtual idx, 3)) (hr : rX7_wasBeyond G d [.ref (gad G 0), a0, a1] S (some (.int v)) S') (hst : (st.map fun v => v.category).sum ≤ 8) (k : AW X G (pc + 3) L (.int v :: st) S') : AW X G pc L (a1 :: a0 :: .ref (gad G 0) :: st) S :=
  ac_V hX (As := [a0, a1]) (C := RX7) hd hml ky_X7_wasBeyond im_yX7_wasBeyond se_yX7_wasBeyond hr rfl rfl rfl hst rfl k
theorem ky_X7_sweep : KY yX7_sweep cX7_sweep 4 (some .int) 1 := ⟨in_X7, co_yX7_sweep, by decide +kernel, by decide⟩
abbrev rX7_sweep (G : GT) (d : Nat) (av : List Value) (S : St) (r : Option Value) (S' : St) : Prop := Runs G d yX7_sweep cX7_sweep 4 (some .int) av S r S'
theorem cv_X7_sweep (hX : XC X G d own cc nL) {a0 : Value} {v : Int32} (hml : Cond.methodLink own idx yX7_sweep ∈ gtbl) (hd : decode cc pc = .ok (.invokevirtual idx, 3)) (hr : rX7_sweep G d [.ref (gad G 0), a0] S (some (.int v)) S') (hst : (st.map fun v => v.category).sum ≤ 8) (k : AW X G (pc + 3) L (.int v :: st) S') : AW X G pc L (a0 :: .ref (gad G 0) :: st) S :=
  ac_V hX (As := [a0]) (C := RX7) hd hml ky_X7_sweep im_yX7_sweep se_yX7_sweep hr rfl rfl rfl hst rfl k
theorem ky_X5_isFull : KY yX5_isFull cX5_isFull 1 (some .boolean) 0 := ⟨in_X5, co_yX5_isFull, by decide +kernel, by decide⟩
abbrev rX5_isFull (G : GT) (d : Nat) (av : List Value) (S : St) (r : Option Value) (S' : St) : Prop := Runs G d yX5_isFull cX5_isFull 1 (some .boolean) av S r S'
theorem cv_X5_isFull (hX : XC X G d own cc nL) {v : Int32} (hml : Cond.methodLink own idx yX5_isFull ∈ gtbl) (hd : decode cc pc = .ok (.invokevirtual idx, 3)) (hr : rX5_isFull G d [.ref (gad G 6)] S (some (.int v)) S') (hst : (st.map fun v => v.category).sum ≤ 8) (k : AW X G (pc + 3) L (.int v :: st) S') : AW X G pc L (.ref (gad G 6) :: st) S :=
  ac_V hX (As := []) (C := RX5) hd hml ky_X5_isFull im_yX5_isFull se_yX5_isFull hr rfl rfl rfl hst rfl k
theorem ky_X5_add : KY yX5_add cX5_add 5 none 4 := ⟨in_X5, co_yX5_add, by decide +kernel, by decide⟩
abbrev rX5_add (G : GT) (d : Nat) (av : List Value) (S : St) (r : Option Value) (S' : St) : Prop := Runs G d yX5_add cX5_add 5 none av S r S'
theorem cv_X5_add (hX : XC X G d own cc nL) {a0 a1 a2 a3 : Value} (hml : Cond.methodLink own idx yX5_add ∈ gtbl) (hd : decode cc pc = .ok (.invokevirtual idx, 3)) (hr : rX5_add G d [.ref (gad G 6), a0, a1, a2, a3] S none S') (hst : (st.map fun v => v.category).sum ≤ 8) (k : AW X G (pc + 3) L (st) S') : AW X G pc L (a3 :: a2 :: a1 :: a0 :: .ref (gad G 6) :: st) S :=
  ac_V hX (As := [a0, a1, a2, a3]) (C := RX5) hd hml ky_X5_add im_yX5_add se_yX5_add hr rfl rfl rfl hst rfl k
theorem ky_X7_refuse : KY yX7_refuse cX7_refuse 2 (some .int) 1 := ⟨in_X7, co_yX7_refuse, by decide +kernel, by decide⟩
abbrev rX7_refuse (G : GT) (d : Nat) (av : List Value) (S : St) (r : Option Value) (S' : St) : Prop := Runs G d yX7_refuse cX7_refuse 2 (some .int) av S r S'
theorem cv_X7_refuse (hX : XC X G d own cc nL) {a0 : Value} {v : Int32} (hml : Cond.methodLink own idx yX7_refuse ∈ gtbl) (hd : decode cc pc = .ok (.invokevirtual idx, 3)) (hr : rX7_refuse G d [.ref (gad G 0), a0] S (some (.int v)) S') (hst : (st.map fun v => v.category).sum ≤ 8) (k : AW X G (pc + 3) L (.int v :: st) S') : AW X G pc L (a0 :: .ref (gad G 0) :: st) S :=
  ac_V hX (As := [a0]) (C := RX7) hd hml ky_X7_refuse im_yX7_refuse se_yX7_refuse hr rfl rfl rfl hst rfl k
theorem ky_X7_look : KY yX7_look cX7_look 4 (some .int) 3 := ⟨in_X7, co_yX7_look, by decide +kernel, by decide⟩
abbrev rX7_look (G : GT) (d : Nat) (av : List Value) (S : St) (r : Option Value) (S' : St) : Prop := Runs G d yX7_look cX7_look 4 (some .int) av S r S'
theorem cv_X7_look (hX : XC X G d own cc nL) {a0 a1 a2 : Value} {v : Int32} (hml : Cond.methodLink own idx yX7_look ∈ gtbl) (hd : decode cc pc = .ok (.invokevirtual idx, 3)) (hr : rX7_look G d [.ref (gad G 0), a0, a1, a2] S (some (.int v)) S') (hst : (st.map fun v => v.category).sum ≤ 8) (k : AW X G (pc + 3) L (.int v :: st) S') : AW X G pc L (a2 :: a1 :: a0 :: .ref (gad G 0) :: st) S :=
  ac_V hX (As := [a0, a1, a2]) (C := RX7) hd hml ky_X7_look im_yX7_look se_yX7_look hr rfl rfl rfl hst rfl k
theorem ky_X4_isFull : KY yX4_isFull cX4_isFull 1 (some .boolean) 0 := ⟨in_X4, co_yX4_isFull, by decide +kernel, by decide⟩
abbrev rX4_isFull (G : GT) (d : Nat) (av : List Value) (S : St) (r : Option Value) (S' : St) : Prop := Runs G d yX4_isFull cX4_isFull 1 (some .boolean) av S r S'
theorem cv_X4_isFull (hX : XC X G d own cc nL) {v : Int32} (hml : Cond.methodLink own idx yX4_isFull ∈ gtbl) (hd : decode cc pc = .ok (.invokevirtual idx, 3)) (hr : rX4_isFull G d [.ref (gad G 4)] S (some (.int v)) S') (hst : (st.map fun v => v.category).sum ≤ 8) (k : AW X G (pc + 3) L (.int v :: st) S') : AW X G pc L (.ref (gad G 4) :: st) S :=
  ac_V hX (As := []) (C := RX4) hd hml ky_X4_isFull im_yX4_isFull se_yX4_isFull hr rfl rfl rfl hst rfl k
theorem ky_X4_add : KY yX4_add cX4_add 5 (some .int) 4 := ⟨in_X4, co_yX4_add, by decide +kernel, by decide⟩
abbrev rX4_add (G : GT) (d : Nat) (av : List Value) (S : St) (r : Option Value) (S' : St) : Prop := Runs G d yX4_add cX4_add 5 (some .int) av S r S'
theorem cv_X4_add (hX : XC X G d own cc nL) {a0 a1 a2 a3 : Value} {v : Int32} (hml : Cond.methodLink own idx yX4_add ∈ gtbl) (hd : decode cc pc = .ok (.invokevirtual idx, 3)) (hr : rX4_add G d [.ref (gad G 4), a0, a1, a2, a3] S (some (.int v)) S') (hst : (st.map fun v => v.category).sum ≤ 8) (k : AW X G (pc + 3) L (.int v :: st) S') : AW X G pc L (a3 :: a2 :: a1 :: a0 :: .ref (gad G 4) :: st) S :=
  ac_V hX (As := [a0, a1, a2, a3]) (C := RX4) hd hml ky_X4_add im_yX4_add se_yX4_add hr rfl rfl rfl hst rfl k
theorem ky_X7_known : KY yX7_known cX7_known 3 (some .int) 2 := ⟨in_X7, co_yX7_known, by decide +kernel, by decide⟩
abbrev rX7_known (G : GT) (d : Nat) (av : List Value) (S : St) (r : Option Value) (S' : St) : Prop := Runs G d yX7_known cX7_known 3 (some .int) av S r S'
theorem cv_X7_known (hX : XC X G d own cc nL) {a0 a1 : Value} {v : Int32} (hml : Cond.methodLink own idx yX7_known ∈ gtbl) (hd : decode cc pc = .ok (.invokevirtual idx, 3)) (hr : rX7_known G d [.ref (gad G 0), a0, a1] S (some (.int v)) S') (hst : (st.map fun v => v.category).sum ≤ 8) (k : AW X G (pc + 3) L (.int v :: st) S') : AW X G pc L (a1 :: a0 :: .ref (gad G 0) :: st) S :=
  ac_V hX (As := [a0, a1]) (C := RX7) hd hml ky_X7_known im_yX7_known se_yX7_known hr rfl rfl rfl hst rfl k
theorem ky_X7_fire : KY yX7_fire cX7_fire 3 (some .int) 2 := ⟨in_X7, co_yX7_fire, by decide +kernel, by decide⟩
abbrev rX7_fire (G : GT) (d : Nat) (av : List Value) (S : St) (r : Option Value) (S' : St) : Prop := Runs G d yX7_fire cX7_fire 3 (some .int) av S r S'
theorem cv_X7_fire (hX : XC X G d own cc nL) {a0 a1 : Value} {v : Int32} (hml : Cond.methodLink own idx yX7_fire ∈ gtbl) (hd : decode cc pc = .ok (.invokevirtual idx, 3)) (hr : rX7_fire G d [.ref (gad G 0), a0, a1] S (some (.int v)) S') (hst : (st.map fun v => v.category).sum ≤ 8) (k : AW X G (pc + 3) L (.int v :: st) S') : AW X G pc L (a1 :: a0 :: .ref (gad G 0) :: st) S :=
  ac_V hX (As := [a0, a1]) (C := RX7) hd hml ky_X7_fire im_yX7_fire se_yX7_fire hr rfl rfl rfl hst rfl k
theorem ky_X1_isFull : KY yX1_isFull cX1_isFull 1 (some .boolean) 0 := ⟨in_X1, co_yX1_isFull, by decide +kernel, by decide⟩
abbrev rX1_isFull (G : GT) (d : Nat) (av : List Value) (S : St) (r : Option Value) (S' : St) : Prop := Runs G d yX1_isFull cX1_isFull 1 (some .boolean) av S r S'
theorem cv_X1_isFull (hX : XC X G d own cc nL) {v : Int32} (hml : Cond.methodLink own idx yX1_isFull ∈ gtbl) (hd : decode cc pc = .ok (.invokevirtual idx, 3)) (hr : rX1_isFull G d [.ref (gad G 5)] S (some (.int v)) S') (hst : (st.map fun v => v.category).sum ≤ 8) (k : AW X G (pc + 3) L (.int v :: st) S') : AW X G pc L (.ref (gad G 5) :: st) S :=
  ac_V hX (As := []) (C := RX1) hd hml ky_X1_isFull im_yX1_isFull se_yX1_isFull hr rfl rfl rfl hst rfl k
theorem ky_X1_add : KY yX1_add cX1_add 3 (some .int) 2 := ⟨in_X1, co_yX1_add, by decide +kernel, by decide⟩
abbrev rX1_add (G : GT) (d : Nat) (av : List Value) (S : St) (r : Option Value) (S' : St) : Prop := Runs G d yX1_add cX1_add 3 (some .int) av S r S'
theorem cv_X1_add (hX : XC X G d own cc nL) {a0 a1 : Value} {v : Int32} (hml : Cond.methodLink own idx yX1_add ∈ gtbl) (hd : decode cc pc = .ok (.invokevirtual idx, 3)) (hr : rX1_add G d [.ref (gad G 5), a0, a1] S (some (.int v)) S') (hst : (st.map fun v => v.category).sum ≤ 8) (k : AW X G (pc + 3) L (.int v :: st) S') : AW X G pc L (a1 :: a0 :: .ref (gad G 5) :: st) S :=
  ac_V hX (As := [a0, a1]) (C := RX1) hd hml ky_X1_add im_yX1_add se_yX1_add hr rfl rfl rfl hst rfl k
theorem ky_X7_back : KY yX7_back cX7_back 5 (some .int) 2 := ⟨in_X7, co_yX7_back, by decide +kernel, by decide⟩
abbrev rX7_back (G : GT) (d : Nat) (av : List Value) (S : St) (r : Option Value) (S' : St) : Prop := Runs G d yX7_back cX7_back 5 (some .int) av S r S'
theorem cv_X7_back (hX : XC X G d own cc nL) {a0 a1 : Value} {v : Int32} (hml : Cond.methodLink own idx yX7_back ∈ gtbl) (hd : decode cc pc = .ok (.invokevirtual idx, 3)) (hr : rX7_back G d [.ref (gad G 0), a0, a1] S (some (.int v)) S') (hst : (st.map fun v => v.category).sum ≤ 8) (k : AW X G (pc + 3) L (.int v :: st) S') : AW X G pc L (a1 :: a0 :: .ref (gad G 0) :: st) S :=
  ac_V hX (As := [a0, a1]) (C := RX7) hd hml ky_X7_back im_yX7_back se_yX7_back hr rfl rfl rfl hst rfl k
theorem ky_X1_has : KY yX1_has cX1_has 2 (some .boolean) 1 := ⟨in_X1, co_yX1_has, by decide +kernel, by decide⟩
abbrev rX1_has (G : GT) (d : Nat) (av : List Value) (S : St) (r : Option Value) (S' : St) : Prop := Runs G d yX1_has cX1_has 2 (some .boolean) av S r S'
theorem cv_X1_has (hX : XC X G d own cc nL) {a0 : Value} {v : Int32} (hml : Cond.methodLink own idx yX1_has ∈ gtbl) (hd : decode cc pc = .ok (.invokevirtual idx, 3)) (hr : rX1_has G d [.ref (gad G 5), a0] S (some (.int v)) S') (hst : (st.map fun v => v.category).sum ≤ 8) (k : AW X G (pc + 3) L (.int v :: st) S') : AW X G pc L (a0 :: .ref (gad G 5) :: st) S :=
  ac_V hX (As := [a0]) (C := RX1) hd hml ky_X1_has im_yX1_has se_yX1_has hr rfl rfl rfl hst rfl k
theorem ky_X7_sweeperBy : KY yX7_sweeperBy cX7_sweeperBy 4 (some .int) 2 := ⟨in_X7, co_yX7_sweeperBy, by decide +kernel, by decide⟩
abbrev rX7_sweeperBy (G : GT) (d : Nat) (av : List Value) (S : St) (r : Option Value) (S' : St) : Prop := Runs G d yX7_sweeperBy cX7_sweeperBy 4 (some .int) av S r S'
theorem cv_X7_sweeperBy (hX : XC X G d own cc nL) {a0 a1 : Value} {v : Int32} (hml : Cond.methodLink own idx yX7_sweeperBy ∈ gtbl) (hd : decode cc pc = .ok (.invokevirtual idx, 3)) (hr : rX7_sweeperBy G d [.ref (gad G 0), a0, a1] S (some (.int v)) S') (hst : (st.map fun v => v.category).sum ≤ 8) (k : AW X G (pc + 3) L (.int v :: st) S') : AW X G pc L (a1 :: a0 :: .ref (gad G 0) :: st) S :=
  ac_V hX (As := [a0, a1]) (C := RX7) hd hml ky_X7_sweeperBy im_yX7_sweeperBy se_yX7_sweeperBy hr rfl rfl rfl hst rfl k
theorem ky_X7_rate : KY yX7_rate cX7_rate 3 (some .int) 1 := ⟨in_X7, co_yX7_rate, by decide +kernel, by decide⟩
abbrev rX7_rate (G : GT) (d : Nat) (av : List Value) (S : St) (r : Option Value) (S' : St) : Prop := Runs G d yX7_rate cX7_rate 3 (some .int) av S r S'
theorem cv_X7_rate (hX : XC X G d own cc nL) {a0 : Value} {v : Int32} (hml : Cond.methodLink own idx yX7_rate ∈ gtbl) (hd : decode cc pc = .ok (.invokevirtual idx, 3)) (hr : rX7_rate G d [.ref (gad G 0), a0] S (some (.int v)) S') (hst : (st.map fun v => v.category).sum ≤ 8) (k : AW X G (pc + 3) L (.int v :: st) S') : AW X G pc L (a0 :: .ref (gad G 0) :: st) S :=
  ac_V hX (As := [a0]) (C := RX7) hd hml ky_X7_rate im_yX7_rate se_yX7_rate hr rfl rfl rfl hst rfl k
theorem ky_X7_ill : KY yX7_ill cX7_ill 4 (some .int) 2 := ⟨in_X7, co_yX7_ill, by decide +kernel, by decide⟩
abbrev rX7_ill (G : GT) (d : Nat) (av : List Value) (S : St) (r : Option Value) (S' : St) : Prop := Runs G d yX7_ill cX7_ill 4 (some .int) av S r S'
theorem cv_X7_ill (hX : XC X G d own cc nL) {a0 a1 : Value} {v : Int32} (hml : Cond.methodLink own idx yX7_ill ∈ gtbl) (hd : decode cc pc = .ok (.invokevirtual idx, 3)) (hr : rX7_ill G d [.ref (gad G 0), a0, a1] S (some (.int v)) S') (hst : (st.map fun v => v.category).sum ≤ 8) (k : AW X G (pc + 3) L (.int v :: st) S') : AW X G pc L (a1 :: a0 :: .ref (gad G 0) :: st) S :=
  ac_V hX (As := [a0, a1]) (C := RX7) hd hml ky_X7_ill im_yX7_ill se_yX7_ill hr rfl rfl rfl hst rfl k
theorem ky_X7_fees : KY yX7_fees cX7_fees 3 (some .int) 2 := ⟨in_X7, co_yX7_fees, by decide +kernel, by decide⟩
abbrev rX7_fees (G : GT) (d : Nat) (av : List Value) (S : St) (r : Option Value) (S' : St) : Prop := Runs G d yX7_fees cX7_fees 3 (some .int) av S r S'
theorem cv_X7_fees (hX : XC X G d own cc nL) {a0 a1 : Value} {v : Int32} (hml : Cond.methodLink own idx yX7_fees ∈ gtbl) (hd : decode cc pc = .ok (.invokevirtual idx, 3)) (hr : rX7_fees G d [.ref (gad G 0), a0, a1] S (some (.int v)) S') (hst : (st.map fun v => v.category).sum ≤ 8) (k : AW X G (pc + 3) L (.int v :: st) S') : AW X G pc L (a1 :: a0 :: .ref (gad G 0) :: st) S :=
  ac_V hX (As := [a0, a1]) (C := RX7) hd hml ky_X7_fees im_yX7_fees se_yX7_fees hr rfl rfl rfl hst rfl k
theorem ky_X5_earnedBy : KY yX5_earnedBy cX5_earnedBy 4 (some .int) 1 := ⟨in_X5, co_yX5_earnedBy, by decide +kernel, by decide⟩
abbrev rX5_earnedBy (G : GT) (d : Nat) (av : List Value) (S : St) (r : Option Value) (S' : St) : Prop := Runs G d yX5_earnedBy cX5_earnedBy 4 (some .int) av S r S'
theorem cv_X5_earnedBy (hX : XC X G d own cc nL) {a0 : Value} {v : Int32} (hml : Cond.methodLink own idx yX5_earnedBy ∈ gtbl) (hd : decode cc pc = .ok (.invokevirtual idx, 3)) (hr : rX5_earnedBy G d [.ref (gad G 6), a0] S (some (.int v)) S') (hst : (st.map fun v => v.category).sum ≤ 8) (k : AW X G (pc + 3) L (.int v :: st) S') : AW X G pc L (a0 :: .ref (gad G 6) :: st) S :=
  ac_V hX (As := [a0]) (C := RX5) hd hml ky_X5_earnedBy im_yX5_earnedBy se_yX5_earnedBy hr rfl rfl rfl hst rfl k
theorem ky_X5_doneBy : KY yX5_doneBy cX5_doneBy 4 (some .int) 1 := ⟨in_X5, co_yX5_doneBy, by decide +kernel, by decide⟩
abbrev rX5_doneBy (G : GT) (d : Nat) (av : List Value) (S : St) (r : Option Value) (S' : St) : Prop := Runs G d yX5_doneBy cX5_doneBy 4 (some .int) av S r S'
theorem cv_X5_doneBy (hX : XC X G d own cc nL) {a0 : Value} {v : Int32} (hml : Cond.methodLink own idx yX5_doneBy ∈ gtbl) (hd : decode cc pc = .ok (.invokevirtual idx, 3)) (hr : rX5_doneBy G d [.ref (gad G 6), a0] S (some (.int v)) S') (hst : (st.map fun v => v.category).sum ≤ 8) (k : AW X G (pc + 3) L (.int v :: st) S') : AW X G pc L (a0 :: .ref (gad G 6) :: st) S :=
  ac_V hX (As := [a0]) (C := RX5) hd hml ky_X5_doneBy im_yX5_doneBy se_yX5_doneBy hr rfl rfl rfl hst rfl k
theorem ky_X7_round : KY yX7_round cX7_round 5 (some .int) 3 := ⟨in_X7, co_yX7_round, by decide +kernel, by decide⟩
abbrev rX7_round (G : GT) (d : Nat) (av : List Value) (S : St) (r : Option Value) (S' : St) : Prop := Runs G d yX7_round cX7_round 5 (some .int) av S r S'
theorem cv_X7_round (hX : XC X G d own cc nL) {a0 a1 a2 : Value} {v : Int32} (hml : Cond.methodLink own idx yX7_round ∈ gtbl) (hd : decode cc pc = .ok (.invokevirtual idx, 3)) (hr : rX7_round G d [.ref (gad G 0), a0, a1, a2] S (some (.int v)) S') (hst : (st.map fun v => v.category).sum ≤ 8) (k : AW X G (pc + 3) L (.int v :: st) S') : AW X G pc L (a2 :: a1 :: a0 :: .ref (gad G 0) :: st) S :=
  ac_V hX (As := [a0, a1, a2]) (C := RX7) hd hml ky_X7_round im_yX7_round se_yX7_round hr rfl rfl rfl hst rfl k
theorem ky_X7_waitingSince : KY yX7_waitingSince cX7_waitingSince 5 (some .int) 3 := ⟨in_X7, co_yX7_waitingSince, by decide +kernel, by decide⟩
abbrev rX7_waitingSince (G : GT) (d : Nat) (av : List Value) (S : St) (r : Option Value) (S' : St) : Prop := Runs G d yX7_waitingSince cX7_waitingSince 5 (some .int) av S r S'
theorem cv_X7_waitingSince (hX : XC X G d own cc nL) {a0 a1 a2 : Value} {v : Int32} (hml : Cond.methodLink own idx yX7_waitingSince ∈ gtbl) (hd : decode cc pc = .ok (.invokevirtual idx, 3)) (hr : rX7_waitingSince G d [.ref (gad G 0), a0, a1, a2] S (some (.int v)) S') (hst : (st.map fun v => v.category).sum ≤ 8) (k : AW X G (pc + 3) L (.int v :: st) S') : AW X G pc L (a2 :: a1 :: a0 :: .ref (gad G 0) :: st) S :=
  ac_V hX (As := [a0, a1, a2]) (C := RX7) hd hml ky_X7_waitingSince im_yX7_waitingSince se_yX7_waitingSince hr rfl rfl rfl hst rfl k
theorem ky_X6_restart : KY yX6_restart cX6_restart 1 none 0 := ⟨in_X6, co_yX6_restart, by decide +kernel, by decide⟩
abbrev rX6_restart (G : GT) (d : Nat) (av : List Value) (S : St) (r : Option Value) (S' : St) : Prop := Runs G d yX6_restart cX6_restart 1 none av S r S'
theorem cv_X6_restart (hX : XC X G d own cc nL) (hml : Cond.methodLink own idx yX6_restart ∈ gtbl) (hd : decode cc pc = .ok (.invokevirtual idx, 3)) (hr : rX6_restart G d [.ref (gad G 7)] S none S') (hst : (st.map fun v => v.category).sum ≤ 8) (k : AW X G (pc + 3) L (st) S') : AW X G pc L (.ref (gad G 7) :: st) S :=
  ac_V hX (As := []) (C := RX6) hd hml ky_X6_restart im_yX6_restart se_yX6_restart hr rfl rfl rfl hst rfl k
theorem ky_X2_waitingAheadOf : KY yX2_waitingAheadOf cX2_waitingAheadOf 5 (some .int) 1 := ⟨in_X2, co_yX2_waitingAheadOf, by decide +kernel, by decide⟩
abbrev rX2_waitingAheadOf (G : GT) (d : Nat) (av : List Value) (S : St) (r : Option Value) (S' : St) : Prop := Runs G d yX2_waitingAheadOf cX2_waitingAheadOf 5 (some .int) av S r S'
theorem cv_X2_waitingAheadOf (hX : XC X G d own cc nL) {a0 : Value} {v : Int32} (hml : Cond.methodLink own idx yX2_waitingAheadOf ∈ gtbl) (hd : decode cc pc = .ok (.invokevirtual idx, 3)) (hr : rX2_waitingAheadOf G d [.ref (gad G 3), a0] S (some (.int v)) S') (hst : (st.map fun v => v.category).sum ≤ 8) (k : AW X G (pc + 3) L (.int v :: st) S') : AW X G pc L (a0 :: .ref (gad G 3) :: st) S :=
  ac_V hX (As := [a0]) (C := RX2) hd hml ky_X2_waitingAheadOf im_yX2_waitingAheadOf se_yX2_waitingAheadOf hr rfl rfl rfl hst rfl k
theorem ky_X6_addStop : KY yX6_addStop cX6_addStop 4 none 3 := ⟨in_X6, co_yX6_addStop, by decide +kernel, by decide⟩
abbrev rX6_addStop (G : GT) (d : Nat) (av : List Value) (S : St) (r : Option Value) (S' : St) : Prop := Runs G d yX6_addStop cX6_addStop 4 none av S r S'
theorem cv_X6_addStop (hX : XC X G d own cc nL) {a0 a1 a2 : Value} (hml : Cond.methodLink own idx yX6_addStop ∈ gtbl) (hd : decode cc pc = .ok (.invokevirtual idx, 3)) (hr : rX6_addStop G d [.ref (gad G 7), a0, a1, a2] S none S') (hst : (st.map fun v => v.category).sum ≤ 8) (k : AW X G (pc + 3) L (st) S') : AW X G pc L (a2 :: a1 :: a0 :: .ref (gad G 7) :: st) S :=
  ac_V hX (As := [a0, a1, a2]) (C := RX6) hd hml ky_X6_addStop im_yX6_addStop se_yX6_addStop hr rfl rfl rfl hst rfl k
theorem ky_X6_findLeastWay : KY yX6_findLeastWay cX6_findLeastWay 1 none 0 := ⟨in_X6, co_yX6_findLeastWay, by decide +kernel, by decide⟩
abbrev rX6_findLeastWay (G : GT) (d : Nat) (av : List Value) (S : St) (r : Option Value) (S' : St) : Prop := Runs G d yX6_findLeastWay cX6_findLeastWay 1 none av S r S'
theorem cv_X6_findLeastWay (hX : XC X G d own cc nL) (hml : Cond.methodLink own idx yX6_findLeastWay ∈ gtbl) (hd : decode cc pc = .ok (.invokevirtual idx, 3)) (hr : rX6_findLeastWay G d [.ref (gad G 7)] S none S') (hst : (st.map fun v => v.category).sum ≤ 8) (k : AW X G (pc + 3) L (st) S') : AW X G pc L (.ref (gad G 7) :: st) S :=
  ac_V hX (As := []) (C := RX6) hd hml ky_X6_findLeastWay im_yX6_findLeastWay se_yX6_findLeastWay hr rfl rfl rfl hst rfl k
theorem ky_X6_extend : KY yX6_extend cX6_extend 8 none 5 := ⟨in_X6, co_yX6_extend, by decide +kernel, by decide⟩
abbrev rX6_extend (G : GT) (d : Nat) (av : List Value) (S : St) (r : Option Value) (S' : St) : Prop := Runs G d yX6_extend cX6_extend 8 none av S r S'
theorem cs_X6_extend (hX : XC X G d own cc nL) {a0 a1 a2 a3 a4 : Value} (hml : Cond.methodLink own idx yX6_extend ∈ gtbl) (hd : decode cc pc = .ok (.invokestatic idx, 3)) (hr : rX6_extend G d [a0, a1, a2, a3, a4] S none S') (hst : (st.map fun v => v.category).sum ≤ 8) (k : AW X G (pc + 3) L (st) S') : AW X G pc L (a4 :: a3 :: a2 :: a1 :: a0 :: st) S :=
  ac_S hX (As := [a0, a1, a2, a3, a4]) hd hml ky_X6_extend sm_yX6_extend hr rfl hst rfl k
theorem ky_X6_keepTried : KY yX6_keepTried cX6_keepTried 3 none 1 := ⟨in_X6, co_yX6_keepTried, by decide +kernel, by decide⟩
abbrev rX6_keepTried (G : GT) (d : Nat) (av : List Value) (S : St) (r : Option Value) (S' : St) : Prop := Runs G d yX6_keepTried cX6_keepTried 3 none av S r S'
theorem cv_X6_keepTried (hX : XC X G d own cc nL) {a0 : Value} (hml : Cond.methodLink own idx yX6_keepTried ∈ gtbl) (hd : decode cc pc = .ok (.invokevirtual idx, 3)) (hr : rX6_keepTried G d [.ref (gad G 7), a0] S none S') (hst : (st.map fun v => v.category).sum ≤ 8) (k : AW X G (pc + 3) L (st) S') : AW X G pc L (a0 :: .ref (gad G 7) :: st) S :=
  ac_V hX (As := [a0]) (C := RX6) hd hml ky_X6_keepTried im_yX6_keepTried se_yX6_keepTried hr rfl rfl rfl hst rfl k
theorem ky_X7_at : KY yX7_at cX7_at 2 (some .int) 1 := ⟨in_X7, co_yX7_at, by decide +kernel, by decide⟩
abbrev rX7_at (G : GT) (d : Nat) (av : List Value) (S : St) (r : Option Value) (S' : St) : Prop := Runs G d yX7_at cX7_at 2 (some .int) av S r S'
theorem cv_X7_at (hX : XC X G d own cc nL) {a0 : Value} {v : Int32} (hml : Cond.methodLink own idx yX7_at ∈ gtbl) (hd : decode cc pc = .ok (.invokevirtual idx, 3)) (hr : rX7_at G d [.ref (gad G 0), a0] S (some (.int v)) S') (hst : (st.map fun v => v.category).sum ≤ 8) (k : AW X G (pc + 3) L (.int v :: st) S') : AW X G pc L (a0 :: .ref (gad G 0) :: st) S :=
  ac_V hX (As := [a0]) (C := RX7) hd hml ky_X7_at im_yX7_at se_yX7_at hr rfl rfl rfl hst rfl k
theorem ky_X6_flueAt : KY yX6_flueAt cX6_flueAt 2 (some .int) 1 := ⟨in_X6, co_yX6_flueAt, by decide +kernel, by decide⟩
abbrev rX6_flueAt (G : GT) (d : Nat) (av : List Value) (S : St) (r : Option Value) (S' : St) : Prop := Runs G d yX6_flueAt cX6_flueAt 2 (some .int) av S r S'
theorem cv_X6_flueAt (hX : XC X G d own cc nL) {a0 : Value} {v : Int32} (hml : Cond.methodLink own idx yX6_flueAt ∈ gtbl) (hd : decode cc pc = .ok (.invokevirtual idx, 3)) (hr : rX6_flueAt G d [.ref (gad G 7), a0] S (some (.int v)) S') (hst : (st.map fun v => v.category).sum ≤ 8) (k : AW X G (pc + 3) L (.int v :: st) S') : AW X G pc L (a0 :: .ref (gad G 7) :: st) S :=
  ac_V hX (As := [a0]) (C := RX6) hd hml ky_X6_flueAt im_yX6_flueAt se_yX6_flueAt hr rfl rfl rfl hst rfl k
theorem ky_X7_count : KY yX7_count cX7_count 2 (some .int) 1 := ⟨in_X7, co_yX7_count, by decide +kernel, by decide⟩
abbrev rX7_count (G : GT) (d : Nat) (av : List Value) (S : St) (r : Option Value) (S' : St) : Prop := Runs G d yX7_count cX7_count 2 (some .int) av S r S'
theorem cv_X7_count (hX : XC X G d own cc nL) {a0 : Value} {v : Int32} (hml : Cond.methodLink own idx yX7_count ∈ gtbl) (hd : decode cc pc = .ok (.invokevirtual idx, 3)) (hr : rX7_count G d [.ref (gad G 0), a0] S (some (.int v)) S') (hst : (st.map fun v => v.category).sum ≤ 8) (k : AW X G (pc + 3) L (.int v :: st) S') : AW X G pc L (a0 :: .ref (gad G 0) :: st) S :=
  ac_V hX (As := [a0]) (C := RX7) hd hml ky_X7_count im_yX7_count se_yX7_count hr rfl rfl rfl hst rfl k
theorem ky_X7_trace : KY yX7_trace cX7_trace 1 (some .long) 0 := ⟨in_X7, co_yX7_trace, by decide +kernel, by decide⟩
abbrev rX7_trace (G : GT) (d : Nat) (av : List Value) (S : St) (r : Option Value) (S' : St) : Prop := Runs G d yX7_trace cX7_trace 1 (some .long) av S r S'
theorem cv_X7_trace (hX : XC X G d own cc nL) {v : Int64} (hml : Cond.methodLink own idx yX7_trace ∈ gtbl) (hd : decode cc pc = .ok (.invokevirtual idx, 3)) (hr : rX7_trace G d [.ref (gad G 0)] S (some (.long v)) S') (hst : (st.map fun v => v.category).sum ≤ 8) (k : AW X G (pc + 3) L (.long v :: st) S') : AW X G pc L (.ref (gad G 0) :: st) S :=
  ac_V hX (As := []) (C := RX7) hd hml ky_X7_trace im_yX7_trace se_yX7_trace hr rfl rfl rfl hst rfl k
theorem ky_X8_type : KY yX8_type cX8_type 5 (some .int) 2 := ⟨in_X8, co_yX8_type, by decide +kernel, by decide⟩
abbrev rX8_type (G : GT) (d : Nat) (av : List Value) (S : St) (r : Option Value) (S' : St) : Prop := Runs G d yX8_type cX8_type 5 (some .int) av S r S'
theorem cv_X8_type (hX : XC X G d own cc nL) {a0 a1 : Value} {v : Int32} (hml : Cond.methodLink own idx yX8_type ∈ gtbl) (hd : decode cc pc = .ok (.invokevirtual idx, 3)) (hr : rX8_type G d [.ref (gad G 8), a0, a1] S (some (.int v)) S') (hst : (st.map fun v => v.category).sum ≤ 8) (k : AW X G (pc + 3) L (.int v :: st) S') : AW X G pc L (a1 :: a0 :: .ref (gad G 8) :: st) S :=
  ac_V hX (As := [a0, a1]) (C := RX8) hd hml ky_X8_type im_yX8_type se_yX8_type hr rfl rfl rfl hst rfl k
theorem ky_X8_in : KY yX8_in cX8_in 3 (some .boolean) 3 := ⟨in_X8, co_yX8_in, by decide +kernel, by decide⟩
abbrev rX8_in (G : GT) (d : Nat) (av : List Value) (S : St) (r : Option Value) (S' : St) : Prop := Runs G d yX8_in cX8_in 3 (some .boolean) av S r S'
theorem cs_X8_in (hX : XC X G d own cc nL) {a0 a1 a2 : Value} {v : Int32} (hml : Cond.methodLink own idx yX8_in ∈ gtbl) (hd : decode cc pc = .ok (.invokestatic idx, 3)) (hr : rX8_in G d [a0, a1, a2] S (some (.int v)) S') (hst : (st.map fun v => v.category).sum ≤ 8) (k : AW X G (pc + 3) L (.int v :: st) S') : AW X G pc L (a2 :: a1 :: a0 :: st) S :=
  ac_S hX (As := [a0, a1, a2]) hd hml ky_X8_in sm_yX8_in hr rfl hst rfl k
theorem ky_X8_clear : KY yX8_clear cX8_clear 2 (some .int) 0 := ⟨in_X8, co_yX8_clear, by decide +kernel, by decide⟩
abbrev rX8_clear (G : GT) (d : Nat) (av : List Value) (S : St) (r : Option Value) (S' : St) : Prop := Runs G d yX8_clear cX8_clear 2 (some .int) av S r S'
theorem cv_X8_clear (hX : XC X G d own cc nL) {v : Int32} (hml : Cond.methodLink own idx yX8_clear ∈ gtbl) (hd : decode cc pc = .ok (.invokevirtual idx, 3)) (hr : rX8_clear G d [.ref (gad G 8)] S (some (.int v)) S') (hst : (st.map fun v => v.category).sum ≤ 8) (k : AW X G (pc + 3) L (.int v :: st) S') : AW X G pc L (.ref (gad G 8) :: st) S :=
  ac_V hX (As := []) (C := RX8) hd hml ky_X8_clear im_yX8_clear se_yX8_clear hr rfl rfl rfl hst rfl k
theorem ky_X8_law : KY yX8_law cX8_law 2 (some .int) 0 := ⟨in_X8, co_yX8_law, by decide +kernel, by decide⟩
abbrev rX8_law (G : GT) (d : Nat) (av : List Value) (S : St) (r : Option Value) (S' : St) : Prop := Runs G d yX8_law cX8_law 2 (some .int) av S r S'
theorem cv_X8_law (hX : XC X G d own cc nL) {v : Int32} (hml : Cond.methodLink own idx yX8_law ∈ gtbl) (hd : decode cc pc = .ok (.invokevirtual idx, 3)) (hr : rX8_law G d [.ref (gad G 8)] S (some (.int v)) S') (hst : (st.map fun v => v.category).sum ≤ 8) (k : AW X G (pc + 3) L (.int v :: st) S') : AW X G pc L (.ref (gad G 8) :: st) S :=
  ac_V hX (As := []) (C := RX8) hd hml ky_X8_law im_yX8_law se_yX8_law hr rfl rfl rfl hst rfl k
theorem ky_X8_faultAlone : KY yX8_faultAlone cX8_faultAlone 3 (some .int) 0 := ⟨in_X8, co_yX8_faultAlone, by decide +kernel, by decide⟩
abbrev rX8_faultAlone (G : GT) (d : Nat) (av : List Value) (S : St) (r : Option Value) (S' : St) : Prop := Runs G d yX8_faultAlone cX8_faultAlone 3 (some .int) av S r S'
theorem cv_X8_faultAlone (hX : XC X G d own cc nL) {v : Int32} (hml : Cond.methodLink own idx yX8_faultAlone ∈ gtbl) (hd : decode cc pc = .ok (.invokevirtual idx, 3)) (hr : rX8_faultAlone G d [.ref (gad G 8)] S (some (.int v)) S') (hst : (st.map fun v => v.category).sum ≤ 8) (k : AW X G (pc + 3) L (.int v :: st) S') : AW X G pc L (.ref (gad G 8) :: st) S :=
  ac_V hX (As := []) (C := RX8) hd hml ky_X8_faultAlone im_yX8_faultAlone se_yX8_faultAlone hr rfl rfl rfl hst rfl k
theorem ky_X8_reads : KY yX8_reads cX8_reads 8 (some .int) 0 := ⟨in_X8, co_yX8_reads, by decide +kernel, by decide⟩
abbrev rX8_reads (G : GT) (d : Nat) (av : List Value) (S : St) (r : Option Value) (S' : St) : Prop := Runs G d yX8_reads cX8_reads 8 (some .int) av S r S'
theorem cv_X8_reads (hX : XC X G d own cc nL) {v : Int32} (hml : Cond.methodLink own idx yX8_reads ∈ gtbl) (hd : decode cc pc = .ok (.invokevirtual idx, 3)) (hr : rX8_reads G d [.ref (gad G 8)] S (some (.int v)) S') (hst : (st.map fun v => v.category).sum ≤ 8) (k : AW X G (pc + 3) L (.int v :: st) S') : AW X G pc L (.ref (gad G 8) :: st) S :=
  ac_V hX (As := []) (C := RX8) hd hml ky_X8_reads im_yX8_reads se_yX8_reads hr rfl rfl rfl hst rfl k
theorem ky_X8_isDigit : KY yX8_isDigit cX8_isDigit 2 (some .boolean) 1 := ⟨in_X8, co_yX8_isDigit, by decide +kernel, by decide⟩
abbrev rX8_isDigit (G : GT) (d : Nat) (av : List Value) (S : St) (r : Option Value) (S' : St) : Prop := Runs G d yX8_isDigit cX8_isDigit 2 (some .boolean) av S r S'
theorem cv_X8_isDigit (hX : XC X G d own cc nL) {a0 : Value} {v : Int32} (hml : Cond.methodLink own idx yX8_isDigit ∈ gtbl) (hd : decode cc pc = .ok (.invokevirtual idx, 3)) (hr : rX8_isDigit G d [.ref (gad G 8), a0] S (some (.int v)) S') (hst : (st.map fun v => v.category).sum ≤ 8) (k : AW X G (pc + 3) L (.int v :: st) S') : AW X G pc L (a0 :: .ref (gad G 8) :: st) S :=
  ac_V hX (As := [a0]) (C := RX8) hd hml ky_X8_isDigit im_yX8_isDigit se_yX8_isDigit hr rfl rfl rfl hst rfl k
theorem ky_X8_span : KY yX8_span cX8_span 3 (some .int) 2 := ⟨in_X8, co_yX8_span, by decide +kernel, by decide⟩
abbrev rX8_span (G : GT) (d : Nat) (av : List Value) (S : St) (r : Option Value) (S' : St) : Prop := Runs G d yX8_span cX8_span 3 (some .int) av S r S'
theorem cv_X8_span (hX : XC X G d own cc nL) {a0 a1 : Value} {v : Int32} (hml : Cond.methodLink own idx yX8_span ∈ gtbl) (hd : decode cc pc = .ok (.invokevirtual idx, 3)) (hr : rX8_span G d [.ref (gad G 8), a0, a1] S (some (.int v)) S') (hst : (st.map fun v => v.category).sum ≤ 8) (k : AW X G (pc + 3) L (.int v :: st) S') : AW X G pc L (a1 :: a0 :: .ref (gad G 8) :: st) S :=
  ac_V hX (As := [a0, a1]) (C := RX8) hd hml ky_X8_span im_yX8_span se_yX8_span hr rfl rfl rfl hst rfl k
theorem ky_X8_spanBy : KY yX8_spanBy cX8_spanBy 6 (some .int) 2 := ⟨in_X8, co_yX8_spanBy, by decide +kernel, by decide⟩
abbrev rX8_spanBy (G : GT) (d : Nat) (av : List Value) (S : St) (r : Option Value) (S' : St) : Prop := Runs G d yX8_spanBy cX8_spanBy 6 (some .int) av S r S'
theorem cv_X8_spanBy (hX : XC X G d own cc nL) {a0 a1 : Value} {v : Int32} (hml : Cond.methodLink own idx yX8_spanBy ∈ gtbl) (hd : decode cc pc = .ok (.invokevirtual idx, 3)) (hr : rX8_spanBy G d [.ref (gad G 8), a0, a1] S (some (.int v)) S') (hst : (st.map fun v => v.category).sum ≤ 8) (k : AW X G (pc + 3) L (.int v :: st) S') : AW X G pc L (a1 :: a0 :: .ref (gad G 8) :: st) S :=
  ac_V hX (As := [a0, a1]) (C := RX8) hd hml ky_X8_spanBy im_yX8_spanBy se_yX8_spanBy hr rfl rfl rfl hst rfl k
theorem ky_X8_days : KY yX8_days cX8_days 2 (some .int) 1 := ⟨in_X8, co_yX8_days, by decide +kernel, by decide⟩
abbrev rX8_days (G : GT) (d : Nat) (av : List Value) (S : St) (r : Option Value) (S' : St) : Prop := Runs G d yX8_days cX8_days 2 (some .int) av S r S'
theorem cv_X8_days (hX : XC X G d own cc nL) {a0 : Value} {v : Int32} (hml : Cond.methodLink own idx yX8_days ∈ gtbl) (hd : decode cc pc = .ok (.invokevirtual idx, 3)) (hr : rX8_days G d [.ref (gad G 8), a0] S (some (.int v)) S') (hst : (st.map fun v => v.category).sum ≤ 8) (k : AW X G (pc + 3) L (.int v :: st) S') : AW X G pc L (a0 :: .ref (gad G 8) :: st) S :=
  ac_V hX (As := [a0]) (C := RX8) hd hml ky_X8_days im_yX8_days se_yX8_days hr rfl rfl rfl hst rfl k
theorem ky_X8_flue : KY yX8_flue cX8_flue 10 (some .int) 8 := ⟨in_X8, co_yX8_flue, by decide +kernel, by decide⟩
abbrev rX8_flue (G : GT) (d : Nat) (av : List Value) (S : St) (r : Option Value) (S' : St) : Prop := Runs G d yX8_flue cX8_flue 10 (some .int) av S r S'
theorem cv_X8_flue (hX : XC X G d own cc nL) {a0 a1 a2 a3 a4 a5 a6 a7 : Value} {v : Int32} (hml : Cond.methodLink own idx yX8_flue ∈ gtbl) (hd : decode cc pc = .ok (.invokevirtual idx, 3)) (hr : rX8_flue G d [.ref (gad G 8), a0, a1, a2, a3, a4, a5, a6, a7] S (some (.int v)) S') (hst : (st.map fun v => v.category).sum ≤ 8) (k : AW X G (pc + 3) L (.int v :: st) S') : AW X G pc L (a7 :: a6 :: a5 :: a4 :: a3 :: a2 :: a1 :: a0 :: .ref (gad G 8) :: st) S :=
  ac_V hX (As := [a0, a1, a2, a3, a4, a5, a6, a7]) (C := RX8) hd hml ky_X8_flue im_yX8_flue se_yX8_flue hr rfl rfl rfl hst rfl k
theorem ky_X8_draught : KY yX8_draught cX8_draught 5 (some .int) 1 := ⟨in_X8, co_yX8_draught, by decide +kernel, by decide⟩
abbrev rX8_draught (G : GT) (d : Nat) (av : List Value) (S : St) (r : Option Value) (S' : St) : Prop := Runs G d yX8_draught cX8_draught 5 (some .int) av S r S'
theorem cv_X8_draught (hX : XC X G d own cc nL) {a0 : Value} {v : Int32} (hml : Cond.methodLink own idx yX8_draught ∈ gtbl) (hd : decode cc pc = .ok (.invokevirtual idx, 3)) (hr : rX8_draught G d [.ref (gad G 8), a0] S (some (.int v)) S') (hst : (st.map fun v => v.category).sum ≤ 8) (k : AW X G (pc + 3) L (.int v :: st) S') : AW X G pc L (a0 :: .ref (gad G 8) :: st) S :=
  ac_V hX (As := [a0]) (C := RX8) hd hml ky_X8_draught im_yX8_draught se_yX8_draught hr rfl rfl rfl hst rfl k
theorem ky_X8_isFlue : KY yX8_isFlue cX8_isFlue 2 (some .boolean) 1 := ⟨in_X8, co_yX8_isFlue, by decide +kernel, by decide⟩
abbrev rX8_isFlue (G : GT) (d : Nat) (av : List Value) (S : St) (r : Option Value) (S' : St) : Prop := Runs G d yX8_isFlue cX8_isFlue 2 (some .boolean) av S r S'
theorem cv_X8_isFlue (hX : XC X G d own cc nL) {a0 : Value} {v : Int32} (hml : Cond.methodLink own idx yX8_isFlue ∈ gtbl) (hd : decode cc pc = .ok (.invokevirtual idx, 3)) (hr : rX8_isFlue G d [.ref (gad G 8), a0] S (some (.int v)) S') (hst : (st.map fun v => v.category).sum ≤ 8) (k : AW X G (pc + 3) L (.int v :: st) S') : AW X G pc L (a0 :: .ref (gad G 8) :: st) S :=
  ac_V hX (As := [a0]) (C := RX8) hd hml ky_X8_isFlue im_yX8_isFlue se_yX8_isFlue hr rfl rfl rfl hst rfl k
theorem ky_X8_of : KY yX8_of cX8_of 3 (some .int) 2 := ⟨in_X8, co_yX8_of, by decide +kernel, by decide⟩
abbrev rX8_of (G : GT) (d : Nat) (av : List Value) (S : St) (r : Option Value) (S' : St) : Prop := Runs G d yX8_of cX8_of 3 (some .int) av S r S'
theorem cv_X8_of (hX : XC X G d own cc nL) {a0 a1 : Value} {v : Int32} (hml : Cond.methodLink own idx yX8_of ∈ gtbl) (hd : decode cc pc = .ok (.invokevirtual idx, 3)) (hr : rX8_of G d [.ref (gad G 8), a0, a1] S (some (.int v)) S') (hst : (st.map fun v => v.category).sum ≤ 8) (k : AW X G (pc + 3) L (.int v :: st) S') : AW X G pc L (a1 :: a0 :: .ref (gad G 8) :: st) S :=
  ac_V hX (As := [a0, a1]) (C := RX8) hd hml ky_X8_of im_yX8_of se_yX8_of hr rfl rfl rfl hst rfl k
theorem ky_X8_about : KY yX8_about cX8_about 3 (some .int) 2 := ⟨in_X8, co_yX8_about, by decide +kernel, by decide⟩
abbrev rX8_about (G : GT) (d : Nat) (av : List Value) (S : St) (r : Option Value) (S' : St) : Prop := Runs G d yX8_about cX8_about 3 (some .int) av S r S'
theorem cv_X8_about (hX : XC X G d own cc nL) {a0 a1 : Value} {v : Int32} (hml : Cond.methodLink own idx yX8_about ∈ gtbl) (hd : decode cc pc = .ok (.invokevirtual idx, 3)) (hr : rX8_about G d [.ref (gad G 8), a0, a1] S (some (.int v)) S') (hst : (st.map fun v => v.category).sum ≤ 8) (k : AW X G (pc + 3) L (.int v :: st) S') : AW X G pc L (a1 :: a0 :: .ref (gad G 8) :: st) S :=
  ac_V hX (As := [a0, a1]) (C := RX8) hd hml ky_X8_about im_yX8_about se_yX8_about hr rfl rfl rfl hst rfl k
theorem ky_X8_isForbidden : KY yX8_isForbidden cX8_isForbidden 2 (some .boolean) 1 := ⟨in_X8, co_yX8_isForbidden, by decide +kernel, by decide⟩
abbrev rX8_isForbidden (G : GT) (d : Nat) (av : List Value) (S : St) (r : Option Value) (S' : St) : Prop := Runs G d yX8_isForbidden cX8_isForbidden 2 (some .boolean) av S r S'
theorem cv_X8_isForbidden (hX : XC X G d own cc nL) {a0 : Value} {v : Int32} (hml : Cond.methodLink own idx yX8_isForbidden ∈ gtbl) (hd : decode cc pc = .ok (.invokevirtual idx, 3)) (hr : rX8_isForbidden G d [.ref (gad G 8), a0] S (some (.int v)) S') (hst : (st.map fun v => v.category).sum ≤ 8) (k : AW X G (pc + 3) L (.int v :: st) S') : AW X G pc L (a0 :: .ref (gad G 8) :: st) S :=
  ac_V hX (As := [a0]) (C := RX8) hd hml ky_X8_isForbidden im_yX8_isForbidden se_yX8_isForbidden hr rfl rfl rfl hst rfl k
theorem ky_X8_knownOn : KY yX8_knownOn cX8_knownOn 6 (some .int) 2 := ⟨in_X8, co_yX8_knownOn, by decide +kernel, by decide⟩
abbrev rX8_knownOn (G : GT) (d : Nat) (av : List Value) (S : St) (r : Option Value) (S' : St) : Prop := Runs G d yX8_knownOn cX8_knownOn 6 (some .int) av S r S'
theorem cv_X8_knownOn (hX : XC X G d own cc nL) {a0 a1 : Value} {v : Int32} (hml : Cond.methodLink own idx yX8_knownOn ∈ gtbl) (hd : decode cc pc = .ok (.invokevirtual idx, 3)) (hr : rX8_knownOn G d [.ref (gad G 8), a0, a1] S (some (.int v)) S') (hst : (st.map fun v => v.category).sum ≤ 8) (k : AW X G (pc + 3) L (.int v :: st) S') : AW X G pc L (a1 :: a0 :: .ref (gad G 8) :: st) S :=
  ac_V hX (As := [a0, a1]) (C := RX8) hd hml ky_X8_knownOn im_yX8_knownOn se_yX8_knownOn hr rfl rfl rfl hst rfl k
theorem ky_X8_doer : KY yX8_doer cX8_doer 11 (some .int) 1 := ⟨in_X8, co_yX8_doer, by decide +kernel, by decide⟩
abbrev rX8_doer (G : GT) (d : Nat) (av : List Value) (S : St) (r : Option Value) (S' : St) : Prop := Runs G d yX8_doer cX8_doer 11 (some .int) av S r S'
theorem cv_X8_doer (hX : XC X G d own cc nL) {a0 : Value} {v : Int32} (hml : Cond.methodLink own idx yX8_doer ∈ gtbl) (hd : decode cc pc = .ok (.invokevirtual idx, 3)) (hr : rX8_doer G d [.ref (gad G 8), a0] S (some (.int v)) S') (hst : (st.map fun v => v.category).sum ≤ 8) (k : AW X G (pc + 3) L (.int v :: st) S') : AW X G pc L (a0 :: .ref (gad G 8) :: st) S :=
  ac_V hX (As := [a0]) (C := RX8) hd hml ky_X8_doer im_yX8_doer se_yX8_doer hr rfl rfl rfl hst rfl k
theorem ky_X8_due : KY yX8_due cX8_due 2 (some .int) 1 := ⟨in_X8, co_yX8_due, by decide +kernel, by decide⟩
abbrev rX8_due (G : GT) (d : Nat) (av : List Value) (S : St) (r : Option Value) (S' : St) : Prop := Runs G d yX8_due cX8_due 2 (some .int) av S r S'
theorem cv_X8_due (hX : XC X G d own cc nL) {a0 : Value} {v : Int32} (hml : Cond.methodLink own idx yX8_due ∈ gtbl) (hd : decode cc pc = .ok (.invokevirtual idx, 3)) (hr : rX8_due G d [.ref (gad G 8), a0] S (some (.int v)) S') (hst : (st.map fun v => v.category).sum ≤ 8) (k : AW X G (pc + 3) L (.int v :: st) S') : AW X G pc L (a0 :: .ref (gad G 8) :: st) S :=
  ac_V hX (As := [a0]) (C := RX8) hd hml ky_X8_due im_yX8_due se_yX8_due hr rfl rfl rfl hst rfl k
theorem ky_X8_dueBy : KY yX8_dueBy cX8_dueBy 4 (some .int) 2 := ⟨in_X8, co_yX8_dueBy, by decide +kernel, by decide⟩
abbrev rX8_dueBy (G : GT) (d : Nat) (av : List Value) (S : St) (r : Option Value) (S' : St) : Prop := Runs G d yX8_dueBy cX8_dueBy 4 (some .int) av S r S'
theorem cv_X8_dueBy (hX : XC X G d own cc nL) {a0 a1 : Value} {v : Int32} (hml : Cond.methodLink own idx yX8_dueBy ∈ gtbl) (hd : decode cc pc = .ok (.invokevirtual idx, 3)) (hr : rX8_dueBy G d [.ref (gad G 8), a0, a1] S (some (.int v)) S') (hst : (st.map fun v => v.category).sum ≤ 8) (k : AW X G (pc + 3) L (.int v :: st) S') : AW X G pc L (a1 :: a0 :: .ref (gad G 8) :: st) S :=
  ac_V hX (As := [a0, a1]) (C := RX8) hd hml ky_X8_dueBy im_yX8_dueBy se_yX8_dueBy hr rfl rfl rfl hst rfl k
theorem ky_X8_beyond : KY yX8_beyond cX8_beyond 3 (some .int) 0 := ⟨in_X8, co_yX8_beyond, by decide +kernel, by decide⟩
abbrev rX8_beyond (G : GT) (d : Nat) (av : List Value) (S : St) (r : Option Value) (S' : St) : Prop := Runs G d yX8_beyond cX8_beyond 3 (some .int) av S r S'
theorem cv_X8_beyond (hX : XC X G d own cc nL) {v : Int32} (hml : Cond.methodLink own idx yX8_beyond ∈ gtbl) (hd : decode cc pc = .ok (.invokevirtual idx, 3)) (hr : rX8_beyond G d [.ref (gad G 8)] S (some (.int v)) S') (hst : (st.map fun v => v.category).sum ≤ 8) (k : AW X G (pc + 3) L (.int v :: st) S') : AW X G pc L (.ref (gad G 8) :: st) S :=
  ac_V hX (As := []) (C := RX8) hd hml ky_X8_beyond im_yX8_beyond se_yX8_beyond hr rfl rfl rfl hst rfl k
theorem ky_X8_sweep : KY yX8_sweep cX8_sweep 4 (some .int) 1 := ⟨in_X8, co_yX8_sweep, by decide +kernel, by decide⟩
abbrev rX8_sweep (G : GT) (d : Nat) (av : List Value) (S : St) (r : Option Value) (S' : St) : Prop := Runs G d yX8_sweep cX8_sweep 4 (some .int) av S r S'
theorem cv_X8_sweep (hX : XC X G d own cc nL) {a0 : Value} {v : Int32} (hml : Cond.methodLink own idx yX8_sweep ∈ gtbl) (hd : decode cc pc = .ok (.invokevirtual idx, 3)) (hr : rX8_sweep G d [.ref (gad G 8), a0] S (some (.int v)) S') (hst : (st.map fun v => v.category).sum ≤ 8) (k : AW X G (pc + 3) L (.int v :: st) S') : AW X G pc L (a0 :: .ref (gad G 8) :: st) S :=
  ac_V hX (As := [a0]) (C := RX8) hd hml ky_X8_sweep im_yX8_sweep se_yX8_sweep hr rfl rfl rfl hst rfl k
theorem ky_X8_refuse : KY yX8_refuse cX8_refuse 2 (some .int) 1 := ⟨in_X8, co_yX8_refuse, by decide +kernel, by decide⟩
abbrev rX8_refuse (G : GT) (d : Nat) (av : List Value) (S : St) (r : Option Value) (S' : St) : Prop := Runs G d yX8_refuse cX8_refuse 2 (some .int) av S r S'
theorem cv_X8_refuse (hX : XC X G d own cc nL) {a0 : Value} {v : Int32} (hml : Cond.methodLink own idx yX8_refuse ∈ gtbl) (hd : decode cc pc = .ok (.invokevirtual idx, 3)) (hr : rX8_refuse G d [.ref (gad G 8), a0] S (some (.int v)) S') (hst : (st.map fun v => v.category).sum ≤ 8) (k : AW X G (pc + 3) L (.int v :: st) S') : AW X G pc L (a0 :: .ref (gad G 8) :: st) S :=
  ac_V hX (As := [a0]) (C := RX8) hd hml ky_X8_refuse im_yX8_refuse se_yX8_refuse hr rfl rfl rfl hst rfl k
theorem ky_X8_look : KY yX8_look cX8_look 4 (some .int) 3 := ⟨in_X8, co_yX8_look, by decide +kernel, by decide⟩
abbrev rX8_look (G : GT) (d : Nat) (av : List Value) (S : St) (r : Option Value) (S' : St) : Prop := Runs G d yX8_look cX8_look 4 (some .int) av S r S'
theorem cv_X8_look (hX : XC X G d own cc nL) {a0 a1 a2 : Value} {v : Int32} (hml : Cond.methodLink own idx yX8_look ∈ gtbl) (hd : decode cc pc = .ok (.invokevirtual idx, 3)) (hr : rX8_look G d [.ref (gad G 8), a0, a1, a2] S (some (.int v)) S') (hst : (st.map fun v => v.category).sum ≤ 8) (k : AW X G (pc + 3) L (.int v :: st) S') : AW X G pc L (a2 :: a1 :: a0 :: .ref (gad G 8) :: st) S :=
  ac_V hX (As := [a0, a1, a2]) (C := RX8) hd hml ky_X8_look im_yX8_look se_yX8_look hr rfl rfl rfl hst rfl k
theorem ky_X8_known : KY yX8_known cX8_known 3 (some .int) 2 := ⟨in_X8, co_yX8_known, by decide +kernel, by decide⟩
abbrev rX8_known (G : GT) (d : Nat) (av : List Value) (S : St) (r : Option Value) (S' : St) : Prop := Runs G d yX8_known cX8_known 3 (some .int) av S r S'
theorem cv_X8_known (hX : XC X G d own cc nL) {a0 a1 : Value} {v : Int32} (hml : Cond.methodLink own idx yX8_known ∈ gtbl) (hd : decode cc pc = .ok (.invokevirtual idx, 3)) (hr : rX8_known G d [.ref (gad G 8), a0, a1] S (some (.int v)) S') (hst : (st.map fun v => v.category).sum ≤ 8) (k : AW X G (pc + 3) L (.int v :: st) S') : AW X G pc L (a1 :: a0 :: .ref (gad G 8) :: st) S :=
  ac_V hX (As := [a0, a1]) (C := RX8) hd hml ky_X8_known im_yX8_known se_yX8_known hr rfl rfl rfl hst rfl k
theorem ky_X8_fire : KY yX8_fire cX8_fire 3 (some .int) 2 := ⟨in_X8, co_yX8_fire, by decide +kernel, by decide⟩
abbrev rX8_fire (G : GT) (d : Nat) (av : List Value) (S : St) (r : Option Value) (S' : St) : Prop := Runs G d yX8_fire cX8_fire 3 (some .int) av S r S'
theorem cv_X8_fire (hX : XC X G d own cc nL) {a0 a1 : Value} {v : Int32} (hml : Cond.methodLink own idx yX8_fire ∈ gtbl) (hd : decode cc pc = .ok (.invokevirtual idx, 3)) (hr : rX8_fire G d [.ref (gad G 8), a0, a1] S (some (.int v)) S') (hst : (st.map fun v => v.category).sum ≤ 8) (k : AW X G (pc + 3) L (.int v :: st) S') : AW X G pc L (a1 :: a0 :: .ref (gad G 8) :: st) S :=
  ac_V hX (As := [a0, a1]) (C := RX8) hd hml ky_X8_fire im_yX8_fire se_yX8_fire hr rfl rfl rfl hst rfl k
theorem ky_X8_back : KY yX8_back cX8_back 8 (some .int) 2 := ⟨in_X8, co_yX8_back, by decide +kernel, by decide⟩
abbrev rX8_back (G : GT) (d : Nat) (av : List Value) (S : St) (r : Option Value) (S' : St) : Prop := Runs G d yX8_back cX8_back 8 (some .int) av S r S'
theorem cv_X8_back (hX : XC X G d own cc nL) {a0 a1 : Value} {v : Int32} (hml : Cond.methodLink own idx yX8_back ∈ gtbl) (hd : decode cc pc = .ok (.invokevirtual idx, 3)) (hr : rX8_back G d [.ref (gad G 8), a0, a1] S (some (.int v)) S') (hst : (st.map fun v => v.category).sum ≤ 8) (k : AW X G (pc + 3) L (.int v :: st) S') : AW X G pc L (a1 :: a0 :: .ref (gad G 8) :: st) S :=
  ac_V hX (As := [a0, a1]) (C := RX8) hd hml ky_X8_back im_yX8_back se_yX8_back hr rfl rfl rfl hst rfl k
theorem ky_X8_rate : KY yX8_rate cX8_rate 3 (some .int) 1 := ⟨in_X8, co_yX8_rate, by decide +kernel, by decide⟩
abbrev rX8_rate (G : GT) (d : Nat) (av : List Value) (S : St) (r : Option Value) (S' : St) : Prop := Runs G d yX8_rate cX8_rate 3 (some .int) av S r S'
theorem cv_X8_rate (hX : XC X G d own cc nL) {a0 : Value} {v : Int32} (hml : Cond.methodLink own idx yX8_rate ∈ gtbl) (hd : decode cc pc = .ok (.invokevirtual idx, 3)) (hr : rX8_rate G d [.ref (gad G 8), a0] S (some (.int v)) S') (hst : (st.map fun v => v.category).sum ≤ 8) (k : AW X G (pc + 3) L (.int v :: st) S') : AW X G pc L (a0 :: .ref (gad G 8) :: st) S :=
  ac_V hX (As := [a0]) (C := RX8) hd hml ky_X8_rate im_yX8_rate se_yX8_rate hr rfl rfl rfl hst rfl k
theorem ky_X8_ill : KY yX8_ill cX8_ill 4 (some .int) 2 := ⟨in_X8, co_yX8_ill, by decide +kernel, by decide⟩
abbrev rX8_ill (G : GT) (d : Nat) (av : List Value) (S : St) (r : Option Value) (S' : St) : Prop := Runs G d yX8_ill cX8_ill 4 (some .int) av S r S'
theorem cv_X8_ill (hX : XC X G d own cc nL) {a0 a1 : Value} {v : Int32} (hml : Cond.methodLink own idx yX8_ill ∈ gtbl) (hd : decode cc pc = .ok (.invokevirtual idx, 3)) (hr : rX8_ill G d [.ref (gad G 8), a0, a1] S (some (.int v)) S') (hst : (st.map fun v => v.category).sum ≤ 8) (k : AW X G (pc + 3) L (.int v :: st) S') : AW X G pc L (a1 :: a0 :: .ref (gad G 8) :: st) S :=
  ac_V hX (As := [a0, a1]) (C := RX8) hd hml ky_X8_ill im_yX8_ill se_yX8_ill hr rfl rfl rfl hst rfl k
theorem ky_X8_isHand : KY yX8_isHand cX8_isHand 1 (some .boolean) 1 := ⟨in_X8, co_yX8_isHand, by decide +kernel, by decide⟩
abbrev rX8_isHand (G : GT) (d : Nat) (av : List Value) (S : St) (r : Option Value) (S' : St) : Prop := Runs G d yX8_isHand cX8_isHand 1 (some .boolean) av S r S'
theorem cs_X8_isHand (hX : XC X G d own cc nL) {a0 : Value} {v : Int32} (hml : Cond.methodLink own idx yX8_isHand ∈ gtbl) (hd : decode cc pc = .ok (.invokestatic idx, 3)) (hr : rX8_isHand G d [a0] S (some (.int v)) S') (hst : (st.map fun v => v.category).sum ≤ 8) (k : AW X G (pc + 3) L (.int v :: st) S') : AW X G pc L (a0 :: st) S :=
  ac_S hX (As := [a0]) hd hml ky_X8_isHand sm_yX8_isHand hr rfl hst rfl k
theorem ky_X8_fees : KY yX8_fees cX8_fees 5 (some .int) 2 := ⟨in_X8, co_yX8_fees, by decide +kernel, by decide⟩
abbrev rX8_fees (G : GT) (d : Nat) (av : List Value) (S : St) (r : Option Value) (S' : St) : Prop := Runs G d yX8_fees cX8_fees 5 (some .int) av S r S'
theorem cv_X8_fees (hX : XC X G d own cc nL) {a0 a1 : Value} {v : Int32} (hml : Cond.methodLink own idx yX8_fees ∈ gtbl) (hd : decode cc pc = .ok (.invokevirtual idx, 3)) (hr : rX8_fees G d [.ref (gad G 8), a0, a1] S (some (.int v)) S') (hst : (st.map fun v => v.category).sum ≤ 8) (k : AW X G (pc + 3) L (.int v :: st) S') : AW X G pc L (a1 :: a0 :: .ref (gad G 8) :: st) S :=
  ac_V hX (As := [a0, a1]) (C := RX8) hd hml ky_X8_fees im_yX8_fees se_yX8_fees hr rfl rfl rfl hst rfl k
theorem ky_X8_round : KY yX8_round cX8_round 11 (some .int) 3 := ⟨in_X8, co_yX8_round, by decide +kernel, by decide⟩
abbrev rX8_round (G : GT) (d : Nat) (av : List Value) (S : St) (r : Option Value) (S' : St) : Prop := Runs G d yX8_round cX8_round 11 (some .int) av S r S'
theorem cv_X8_round (hX : XC X G d own cc nL) {a0 a1 a2 : Value} {v : Int32} (hml : Cond.methodLink own idx yX8_round ∈ gtbl) (hd : decode cc pc = .ok (.invokevirtual idx, 3)) (hr : rX8_round G d [.ref (gad G 8), a0, a1, a2] S (some (.int v)) S') (hst : (st.map fun v => v.category).sum ≤ 8) (k : AW X G (pc + 3) L (.int v :: st) S') : AW X G pc L (a2 :: a1 :: a0 :: .ref (gad G 8) :: st) S :=
  ac_V hX (As := [a0, a1, a2]) (C := RX8) hd hml ky_X8_round im_yX8_round se_yX8_round hr rfl rfl rfl hst rfl k
theorem ky_X8_wayOf : KY yX8_wayOf cX8_wayOf 8 (some .int) 1 := ⟨in_X8, co_yX8_wayOf, by decide +kernel, by decide⟩
abbrev rX8_wayOf (G : GT) (d : Nat) (av : List Value) (S : St) (r : Option Value) (S' : St) : Prop := Runs G d yX8_wayOf cX8_wayOf 8 (some .int) av S r S'
theorem cv_X8_wayOf (hX : XC X G d own cc nL) {a0 : Value} {v : Int32} (hml : Cond.methodLink own idx yX8_wayOf ∈ gtbl) (hd : decode cc pc = .ok (.invokevirtual idx, 3)) (hr : rX8_wayOf G d [.ref (gad G 8), a0] S (some (.int v)) S') (hst : (st.map fun v => v.category).sum ≤ 8) (k : AW X G (pc + 3) L (.int v :: st) S') : AW X G pc L (a0 :: .ref (gad G 8) :: st) S :=
  ac_V hX (As := [a0]) (C := RX8) hd hml ky_X8_wayOf im_yX8_wayOf se_yX8_wayOf hr rfl rfl rfl hst rfl k
theorem ky_X8_goesOn : KY yX8_goesOn cX8_goesOn 7 (some .boolean) 1 := ⟨in_X8, co_yX8_goesOn, by decide +kernel, by decide⟩
abbrev rX8_goesOn (G : GT) (d : Nat) (av : List Value) (S : St) (r : Option Value) (S' : St) : Prop := Runs G d yX8_goesOn cX8_goesOn 7 (some .boolean) av S r S'
theorem cv_X8_goesOn (hX : XC X G d own cc nL) {a0 : Value} {v : Int32} (hml : Cond.methodLink own idx yX8_goesOn ∈ gtbl) (hd : decode cc pc = .ok (.invokevirtual idx, 3)) (hr : rX8_goesOn G d [.ref (gad G 8), a0] S (some (.int v)) S') (hst : (st.map fun v => v.category).sum ≤ 8) (k : AW X G (pc + 3) L (.int v :: st) S') : AW X G pc L (a0 :: .ref (gad G 8) :: st) S :=
  ac_V hX (As := [a0]) (C := RX8) hd hml ky_X8_goesOn im_yX8_goesOn se_yX8_goesOn hr rfl rfl rfl hst rfl k
theorem ky_X8_at : KY yX8_at cX8_at 2 (some .int) 1 := ⟨in_X8, co_yX8_at, by decide +kernel, by decide⟩
abbrev rX8_at (G : GT) (d : Nat) (av : List Value) (S : St) (r : Option Value) (S' : St) : Prop := Runs G d yX8_at cX8_at 2 (some .int) av S r S'
theorem cv_X8_at (hX : XC X G d own cc nL) {a0 : Value} {v : Int32} (hml : Cond.methodLink own idx yX8_at ∈ gtbl) (hd : decode cc pc = .ok (.invokevirtual idx, 3)) (hr : rX8_at G d [.ref (gad G 8), a0] S (some (.int v)) S') (hst : (st.map fun v => v.category).sum ≤ 8) (k : AW X G (pc + 3) L (.int v :: st) S') : AW X G pc L (a0 :: .ref (gad G 8) :: st) S :=
  ac_V hX (As := [a0]) (C := RX8) hd hml ky_X8_at im_yX8_at se_yX8_at hr rfl rfl rfl hst rfl k
theorem ky_X8_count : KY yX8_count cX8_count 2 (some .int) 1 := ⟨in_X8, co_yX8_count, by decide +kernel, by decide⟩
abbrev rX8_count (G : GT) (d : Nat) (av : List Value) (S : St) (r : Option Value) (S' : St) : Prop := Runs G d yX8_count cX8_count 2 (some .int) av S r S'
theorem cv_X8_count (hX : XC X G d own cc nL) {a0 : Value} {v : Int32} (hml : Cond.methodLink own idx yX8_count ∈ gtbl) (hd : decode cc pc = .ok (.invokevirtual idx, 3)) (hr : rX8_count G d [.ref (gad G 8), a0] S (some (.int v)) S') (hst : (st.map fun v => v.category).sum ≤ 8) (k : AW X G (pc + 3) L (.int v :: st) S') : AW X G pc L (a0 :: .ref (gad G 8) :: st) S :=
  ac_V hX (As := [a0]) (C := RX8) hd hml ky_X8_count im_yX8_count se_yX8_count hr rfl rfl rfl hst rfl k
theorem ky_X8_trace : KY yX8_trace cX8_trace 1 (some .long) 0 := ⟨in_X8, co_yX8_trace, by decide +kernel, by decide⟩
abbrev rX8_trace (G : GT) (d : Nat) (av : List Value) (S : St) (r : Option Value) (S' : St) : Prop := Runs G d yX8_trace cX8_trace 1 (some .long) av S r S'
theorem cv_X8_trace (hX : XC X G d own cc nL) {v : Int64} (hml : Cond.methodLink own idx yX8_trace ∈ gtbl) (hd : decode cc pc = .ok (.invokevirtual idx, 3)) (hr : rX8_trace G d [.ref (gad G 8)] S (some (.long v)) S') (hst : (st.map fun v => v.category).sum ≤ 8) (k : AW X G (pc + 3) L (.long v :: st) S') : AW X G pc L (.ref (gad G 8) :: st) S :=
  ac_V hX (As := []) (C := RX8) hd hml ky_X8_trace im_yX8_trace se_yX8_trace hr rfl rfl rfl hst rfl k
end AWC
end
section
theorem i_nlt {a b : Int32} (h : ¬ a < b) : b ≤ a := by
  rw [Int32.le_iff_toInt_le]; rw [Int32.lt_iff_toInt_lt] at h; omega
theorem i_lt {a b : Int32} (h : a < b) : ¬ b ≤ a := by
  rw [Int32.le_iff_toInt_le]; rw [Int32.lt_iff_toInt_lt] at h; omega
theorem i_nle {a b : Int32} (h : ¬ a ≤ b) : b < a := by
  rw [Int32.lt_iff_toInt_lt]; rw [Int32.le_iff_toInt_le] at h; omega
theorem i_le {a b : Int32} (h : a ≤ b) : ¬ b < a := by
  rw [Int32.lt_iff_toInt_lt]; rw [Int32.le_iff_toInt_le] at h; omega
section AWJ
variable {X : XT} {G : GT} {d : Nat} {own : String} {cc : ByteArray} {nL : Nat} {pc : Nat} {L st : List Value} {S : St}
theorem aw_jlt (hX : XC X G d own cc nL) {x y : Int32} {off : Int} {tgt : Nat} (hd : decode cc pc = .ok (.if_icmp .lt off, 3)) (ht : (pc : Int) + off = (tgt : Int)) (kt : ¬ y ≤ x → AW X G tgt L st S) (kf : y ≤ x → AW X G (pc + 3) L st S) : AW X G pc L (.int y :: .int x :: st) S :=
  aw_icmplt hX hd ht (fun h => kt (i_lt h)) (fun h => kf (i_nlt h))
theorem aw_jge (hX : XC X G d own cc nL) {x y : Int32} {off : Int} {tgt : Nat} (hd : decode cc pc = .ok (.if_icmp .ge off, 3)) (ht : (pc : Int) + off = (tgt : Int)) (kt : y ≤ x → AW X G tgt L st S) (kf : ¬ y ≤ x → AW X G (pc + 3) L st S) : AW X G pc L (.int y :: .int x :: st) S :=
  aw_icmpge hX hd ht (fun h => kt (h)) (fun h => kf (h))
theorem aw_jgt (hX : XC X G d own cc nL) {x y : Int32} {off : Int} {tgt : Nat} (hd : decode cc pc = .ok (.if_icmp .gt off, 3)) (ht : (pc : Int) + off = (tgt : Int)) (kt : ¬ x ≤ y → AW X G tgt L st S) (kf : x ≤ y → AW X G (pc + 3) L st S) : AW X G pc L (.int y :: .int x :: st) S :=
  aw_icmpgt hX hd ht (fun h => kt (i_lt h)) (fun h => kf (i_nlt h))
theorem aw_jle (hX : XC X G d own cc nL) {x y : Int32} {off : Int} {tgt : Nat} (hd : decode cc pc = .ok (.if_icmp .le off, 3)) (ht : (pc : Int) + off = (tgt : Int)) (kt : x ≤ y → AW X G tgt L st S) (kf : ¬ x ≤ y → AW X G (pc + 3) L st S) : AW X G pc L (.int y :: .int x :: st) S :=
  aw_icmple hX hd ht (fun h => kt (h)) (fun h => kf (h))
theorem aw_lookup (hX : XC X G d own cc nL) {dflt : Int} {ps : Array (Int × Int)} {len : Nat} {x : Int32} {off : Int} {tgt : Nat} (hd : decode cc pc = .ok (.lookupswitch dflt ps, len)) (hp : (ps.toList.zip (ps.toList.drop 1)).all (fun (a, next) => a.1 < next.1) = true) (ho : Op.lookupswitch.offset ps.toList dflt x.toInt = off) (ht : (pc : Int) + off = (tgt : Int)) (k : AW X G tgt L st S) : AW X G pc L (.int x :: st) S := by
  obtain ⟨p, l, e, R, s, m, args, below, meth, c, cells, slots, Q, A⟩ := X
  exact fun H locs ls hP hS hl => lv_lookup hX.1 hX.2.1 hd hp ho ht (k H locs ls hP hS hl)
theorem aw_tabOut (hX : XC X G d own cc nL) {dflt lo hi : Int} {offs : Array Int} {len : Nat} {x : Int32} {tgt : Nat} (hd : decode cc pc = .ok (.tableswitch dflt lo hi offs, len)) (h : x.toInt < lo ∨ hi < x.toInt) (ht : (pc : Int) + dflt = (tgt : Int)) (k : AW X G tgt L st S) : AW X G pc L (.int x :: st) S := by
  obtain ⟨p, l, e, R, s, m, args, below, meth, c, cells, slots, Q, A⟩ := X
  exact fun H locs ls hP hS hl => lv_tableOut hX.1 hX.2.1 hd h ht (k H locs ls hP hS hl)
theorem aw_tabIn (hX : XC X G d own cc nL) {dflt lo hi : Int} {offs : Array Int} {len : Nat} {x : Int32} {off : Int} {tgt : Nat} (hd : decode cc pc = .ok (.tableswitch dflt lo hi offs, len)) (h1 : ¬ x.toInt < lo) (h2 : ¬ hi < x.toInt) (ho : offs[(x.toInt - lo).toNat]? = some off) (ht : (pc : Int) + off = (tgt : Int)) (k : AW X G tgt L st S) : AW X G pc L (.int x :: st) S := by
  obtain ⟨p, l, e, R, s, m, args, below, meth, c, cells, slots, Q, A⟩ := X
  exact fun H locs ls hP hS hl => lv_tableIn hX.1 hX.2.1 hd h1 h2 ho ht (k H locs ls hP hS hl)
/-- a number's compare with 0, where it is one below: nI n - 1, and n may be 0 -/
theorem pm1 (n : Nat) : nI (n + 1) + Int32.ofInt (-1) = nI n := pk_m1 n
end AWJ
theorem bT {x : Bool} (h : x = true) : nI 1 = bI x := by subst h; rfl
theorem bF {x : Bool} (h : x = false) : nI 0 = bI x := by subst h; rfl
theorem bb {x y : Bool} (h : x = y) : bI x = bI y := by rw [h]
theorem sN_self {S : St} {k v : Nat} (h : S.1 k = v) : sN S k v = S := by
  have e : (fun j => if j = k then v else S.1 j) = S.1 := by
    funext j
    by_cases hj : j = k
    · subst hj; rw [if_pos rfl]; exact h.symm
    · rw [if_neg hj]
  unfold sN
  rw [e]
theorem sN_N {S : St} {k v j : Nat} : (sN S k v).1 j = if j = k then v else S.1 j := rfl
theorem sN_A {S : St} {k v : Nat} : (sN S k v).2.1 = S.2.1 := rfl
theorem sN_L {S : St} {k v : Nat} : (sN S k v).2.2.1 = S.2.2.1 := rfl
theorem sN_R {S : St} {k v : Nat} : (sN S k v).2.2.2 = S.2.2.2 := rfl
theorem sA_N {S : St} {k i : Nat} {v : Int32} : (sA S k i v).1 = S.1 := rfl
theorem sA_A {S : St} {k i j : Nat} {v : Int32} : (sA S k i v).2.1 j = if j = k then upd (S.2.1 k) i v else S.2.1 j := rfl
theorem sA_L {S : St} {k i : Nat} {v : Int32} : (sA S k i v).2.2.1 = S.2.2.1 := rfl
theorem sA_R {S : St} {k i : Nat} {v : Int32} : (sA S k i v).2.2.2 = S.2.2.2 := rfl
theorem sL_N {S : St} {k : Nat} {v : Int64} : (sL S k v).1 = S.1 := rfl
theorem sL_A {S : St} {k : Nat} {v : Int64} : (sL S k v).2.1 = S.2.1 := rfl
theorem sL_L {S : St} {k j : Nat} {v : Int64} : (sL S k v).2.2.1 j = if j = k then v else S.2.2.1 j := rfl
theorem sL_R {S : St} {k : Nat} {v : Int64} : (sL S k v).2.2.2 = S.2.2.2 := rfl
theorem sR_N {S : St} {k : Nat} {v : Int32} : (sR S k v).1 = S.1 := rfl
theorem sR_A {S : St} {k : Nat} {v : Int32} : (sR S k v).2.1 = S.2.1 := rfl
theorem sR_L {S : St} {k : Nat} {v : Int32} : (sR S k v).2.2.1 = S.2.2.1 := rfl
theorem sR_R {S : St} {k j : Nat} {v : Int32} : (sR S k v).2.2.2 j = if j = k then v else S.2.2.2 j := rfl
def inR (v lo hi : Int32) : Bool := decide (lo ≤ v) && decide (v ≤ hi)
theorem inR_f1 {v lo hi : Int32} (h : ¬ lo ≤ v) : inR v lo hi = false := by simp [inR, h]
theorem inR_f2 {v lo hi : Int32} (h : ¬ v ≤ hi) : inR v lo hi = false := by simp [inR, h]
theorem inR_t {v lo hi : Int32} (h : lo ≤ v) (h2 : v ≤ hi) : inR v lo hi = true := by simp [inR, h, h2]
theorem inR_of {v : Int32} {a b : Nat} (h : inR v (nI a) (nI b) = true) (ha : a < 2 ^ 31) (hb : b < 2 ^ 31) : ∃ j : Nat, v = nI j ∧ a ≤ j ∧ j ≤ b := by
  simp only [inR, Bool.and_eq_true, decide_eq_true_eq] at h
  obtain ⟨h1, h2⟩ := h
  have h0 : ¬ v < 0 := by
    have : (nI a).toInt = a := nI_toInt ha
    rw [Int32.le_iff_toInt_le] at h1
    rw [Int32.lt_iff_toInt_lt]
    have : (0 : Int32).toInt = 0 := rfl
    omega
  obtain ⟨j, hj, rfl⟩ := nI_of h0
  exact ⟨j, rfl, (nI_leI ha hj).mp h1, (nI_leI hj hb).mp h2⟩
theorem inR_nI {j a b : Nat} (hj : j < 2 ^ 31) (ha : a < 2 ^ 31) (hb : b < 2 ^ 31) : inR (nI j) (nI a) (nI b) = (decide (a ≤ j) && decide (j ≤ b)) := by
  simp only [inR, nI_leI ha hj, nI_leI hj hb]
end
section
set_option maxHeartbeats 4000000 in
set_option maxRecDepth 100000 in
theorem m_X7_within (d : Nat) (G : GT) (S : St) (v lo hi : Int32) : rX7_within G (d + 1) [.int v, .int lo, .int hi] S (some (.int (bI (inR v lo hi)))) S := by
  refine runs_Z (d := d) (by decide) (Nat.le_of_ble_eq_true rfl) (fun X (hX : XC X G d RX7 cX7_within 3) hR => ?_)
  show AW X G 0 [.int v, .int lo, .int hi] [] S
  refine aw_iload_0 hX dX7_within_0 ?_
  refine aw_iload_1 hX dX7_within_1 ?_
  first | with_reducible refine aw_icmpltN hX (tgt := 14) dX7_within_2 (by decide) (by omega) (by omega) (fun c_2 => ?_) (fun c_2 => ?_) | refine aw_jlt hX (tgt := 14) dX7_within_2 (by decide) (fun c_2 => ?_) (fun c_2 => ?_)
  · skip
    refine aw_iconst hX (v := nI 0) (by decide) dX7_within_14 ?_
    refine aw_finI (hR _ _ dX7_within_15) ?_ ?_
    · first | exact bF (by simp [inR, c_2]) | exact bT (by simp [inR, c_2])
    · rfl
  · skip
    refine aw_iload_0 hX dX7_within_5 ?_
    refine aw_iload_2 hX dX7_within_6 ?_
    first | with_reducible refine aw_icmpgtN hX (tgt := 14) dX7_within_7 (by decide) (by omega) (by omega) (fun c_7 => ?_) (fun c_7 => ?_) | refine aw_jgt hX (tgt := 14) dX7_within_7 (by decide) (fun c_7 => ?_) (fun c_7 => ?_)
    · skip
      refine aw_iconst hX (v := nI 0) (by decide) dX7_within_14 ?_
      refine aw_finI (hR _ _ dX7_within_15) ?_ ?_
      · first | exact bF (by simp [inR, c_2, c_7]) | exact bT (by simp [inR, c_2, c_7])
      · rfl
    · skip
      refine aw_iconst hX (v := nI 1) (by decide) dX7_within_10 ?_
      refine aw_goto hX (tgt := 15) dX7_within_11 (by decide) ?_
      refine aw_finI (hR _ _ dX7_within_15) ?_ ?_
      · first | exact bF (by simp [inR, c_2, c_7]) | exact bT (by simp [inR, c_2, c_7])
      · rfl
set_option maxHeartbeats 4000000 in
set_option maxRecDepth 100000 in
theorem m_X8_in (d : Nat) (G : GT) (S : St) (v lo hi : Int32) : rX8_in G (d + 1) [.int v, .int lo, .int hi] S (some (.int (bI (inR v lo hi)))) S := by
  refine runs_Z (d := d) (by decide) (Nat.le_of_ble_eq_true rfl) (fun X (hX : XC X G d RX8 cX8_in 3) hR => ?_)
  show AW X G 0 [.int v, .int lo, .int hi] [] S
  refine aw_iload_0 hX dX8_in_0 ?_
  refine aw_iload_1 hX dX8_in_1 ?_
  first | with_reducible refine aw_icmpltN hX (tgt := 14) dX8_in_2 (by decide) (by omega) (by omega) (fun c_2 => ?_) (fun c_2 => ?_) | refine aw_jlt hX (tgt := 14) dX8_in_2 (by decide) (fun c_2 => ?_) (fun c_2 => ?_)
  · skip
    refine aw_iconst hX (v := nI 0) (by decide) dX8_in_14 ?_
    refine aw_finI (hR _ _ dX8_in_15) ?_ ?_
    · first | exact bF (by simp [inR, c_2]) | exact bT (by simp [inR, c_2])
    · rfl
  · skip
    refine aw_iload_0 hX dX8_in_5 ?_
    refine aw_iload_2 hX dX8_in_6 ?_
    first | with_reducible refine aw_icmpgtN hX (tgt := 14) dX8_in_7 (by decide) (by omega) (by omega) (fun c_7 => ?_) (fun c_7 => ?_) | refine aw_jgt hX (tgt := 14) dX8_in_7 (by decide) (fun c_7 => ?_) (fun c_7 => ?_)
    · skip
      refine aw_iconst hX (v := nI 0) (by decide) dX8_in_14 ?_
      refine aw_finI (hR _ _ dX8_in_15) ?_ ?_
      · first | exact bF (by simp [inR, c_2, c_7]) | exact bT (by simp [inR, c_2, c_7])
      · rfl
    · skip
      refine aw_iconst hX (v := nI 1) (by decide) dX8_in_10 ?_
      refine aw_goto hX (tgt := 15) dX8_in_11 (by decide) ?_
      refine aw_finI (hR _ _ dX8_in_15) ?_ ?_
      · first | exact bF (by simp [inR, c_2, c_7]) | exact bT (by simp [inR, c_2, c_7])
      · rfl
set_option maxHeartbeats 4000000 in
set_option maxRecDepth 100000 in
theorem m_X7_asNumber (d : Nat) (G : GT) (S : St) (b : Bool) : rX7_asNumber G (d + 1) [.int (bI b)] S (some (.int (bI b))) S := by
  refine runs_I (d := d) (by decide) (Nat.le_of_ble_eq_true rfl) (fun X (hX : XC X G d RX7 cX7_asNumber 1) hR => ?_)
  show AW X G 0 [.int (bI b)] [] S
  refine aw_iload_0 hX dX7_asNumber_0 ?_
  first | with_reducible refine aw_ifeqB hX (tgt := 8) dX7_asNumber_1 (by decide) (fun c_1 => ?_) (fun c_1 => ?_) | refine aw_ifeq hX (tgt := 8) dX7_asNumber_1 (by decide) (fun c_1 => ?_) (fun c_1 => ?_)
  · skip
    refine aw_iconst hX (v := nI 0) (by decide) dX7_asNumber_8 ?_
    refine aw_finI (hR _ _ dX7_asNumber_9) ?_ ?_
    · first | exact bF c_1 | exact bT c_1
    · rfl
  · skip
    refine aw_iconst hX (v := nI 1) (by decide) dX7_asNumber_4 ?_
    refine aw_goto hX (tgt := 9) dX7_asNumber_5 (by decide) ?_
    refine aw_finI (hR _ _ dX7_asNumber_9) ?_ ?_
    · first | exact bF c_1 | exact bT c_1
    · rfl
set_option maxHeartbeats 4000000 in
set_option maxRecDepth 100000 in
theorem m_X7_isHand (d : Nat) (G : GT) (S : St) (h : Int32) : rX7_isHand G (d + 2) [.int h] S (some (.int (bI (inR h (nI 0) (nI 3))))) S := by
  refine runs_Z (d := (d + 1)) (by decide) (Nat.le_of_ble_eq_true rfl) (fun X (hX : XC X G (d + 1) RX7 cX7_isHand 1) hR => ?_)
  show AW X G 0 [.int h] [] S
  refine aw_iload_0 hX dX7_isHand_0 ?_
  refine aw_iconst hX (v := nI 0) (by decide) dX7_isHand_1 ?_
  refine aw_iconst hX (v := nI 3) (by decide) dX7_isHand_2 ?_
  refine cs_X7_within hX ml_X7_73 dX7_isHand_3 (m_X7_within d G S _ _ _) (Nat.le_of_ble_eq_true rfl) ?_
  refine aw_finI (hR _ _ dX7_isHand_6) ?_ ?_
  · rfl
  · rfl
set_option maxHeartbeats 4000000 in
set_option maxRecDepth 100000 in
theorem m_X8_isHand (d : Nat) (G : GT) (S : St) (h : Int32) : rX8_isHand G (d + 2) [.int h] S (some (.int (bI (inR h (nI 0) (nI 3))))) S := by
  refine runs_Z (d := (d + 1)) (by decide) (Nat.le_of_ble_eq_true rfl) (fun X (hX : XC X G (d + 1) RX8 cX8_isHand 1) hR => ?_)
  show AW X G 0 [.int h] [] S
  refine aw_iload_0 hX dX8_isHand_0 ?_
  refine aw_iconst hX (v := nI 0) (by decide) dX8_isHand_1 ?_
  refine aw_iconst hX (v := nI 3) (by decide) dX8_isHand_2 ?_
  refine cs_X8_in hX ml_X8_60 dX8_isHand_3 (m_X8_in d G S _ _ _) (Nat.le_of_ble_eq_true rfl) ?_
  refine aw_finI (hR _ _ dX8_isHand_6) ?_ ?_
  · rfl
  · rfl
set_option maxHeartbeats 4000000 in
set_option maxRecDepth 100000 in
theorem m_X7_isPlace (d : Nat) (G : GT) (S : St) (x y : Int32) : rX7_isPlace G (d + 2) [.int x, .int y] S (some (.int (bI (inR x (nI 0) (nI 20) && inR y (nI 0) (nI 20))))) S := by
  refine runs_Z (d := (d + 1)) (by decide) (Nat.le_of_ble_eq_true rfl) (fun X (hX : XC X G (d + 1) RX7 cX7_isPlace 2) hR => ?_)
  show AW X G 0 [.int x, .int y] [] S
  refine aw_iload_0 hX dX7_isPlace_0 ?_
  refine aw_iconst hX (v := nI 0) (by decide) dX7_isPlace_1 ?_
  refine aw_bipush hX (v := nI 20) (by decide) dX7_isPlace_2 ?_
  refine cs_X7_within hX ml_X7_73 dX7_isPlace_4 (m_X7_within d G S _ _ _) (Nat.le_of_ble_eq_true rfl) ?_
  first | with_reducible refine aw_ifeqB hX (tgt := 24) dX7_isPlace_7 (by decide) (fun c_7 => ?_) (fun c_7 => ?_) | refine aw_ifeq hX (tgt := 24) dX7_isPlace_7 (by decide) (fun c_7 => ?_) (fun c_7 => ?_)
  · skip
    refine aw_iconst hX (v := nI 0) (by decide) dX7_isPlace_24 ?_
    refine aw_finI (hR _ _ dX7_isPlace_25) ?_ ?_
    · first | exact bF (by simp [c_7]) | exact bT (by simp [c_7])
    · rfl
  · skip
    refine aw_iload_1 hX dX7_isPlace_10 ?_
    refine aw_iconst hX (v := nI 0) (by decide) dX7_isPlace_11 ?_
    refine aw_bipush hX (v := nI 20) (by decide) dX7_isPlace_12 ?_
    refine cs_X7_within hX ml_X7_73 dX7_isPlace_14 (m_X7_within d G S _ _ _) (Nat.le_of_ble_eq_true rfl) ?_
    first | with_reducible refine aw_ifeqB hX (tgt := 24) dX7_isPlace_17 (by decide) (fun c_17 => ?_) (fun c_17 => ?_) | refine aw_ifeq hX (tgt := 24) dX7_isPlace_17 (by decide) (fun c_17 => ?_) (fun c_17 => ?_)
    · skip
      refine aw_iconst hX (v := nI 0) (by decide) dX7_isPlace_24 ?_
      refine aw_finI (hR _ _ dX7_isPlace_25) ?_ ?_
      · first | exact bF (by simp [c_7, c_17]) | exact bT (by simp [c_7, c_17])
      · rfl
    · skip
      refine aw_iconst hX (v := nI 1) (by decide) dX7_isPlace_20 ?_
      refine aw_goto hX (tgt := 25) dX7_isPlace_21 (by decide) ?_
      refine aw_finI (hR _ _ dX7_isPlace_25) ?_ ?_
      · first | exact bF (by simp [c_7, c_17]) | exact bT (by simp [c_7, c_17])
      · rfl
set_option maxHeartbeats 4000000 in
set_option maxRecDepth 100000 in
theorem m_X7_isBody (d : Nat) (G : GT) (S : St) (k f h w b : Int32) : rX7_isBody G (d + 2) [.int k, .int f, .int h, .int w, .int b] S (some (.int (bI (inR k (nI 0) (nI 2) && inR f (nI 0) (nI 2) && inR h (nI 1) (nI 30) && inR w (nI 10) (nI 40) && inR b (nI 0) (nI 4))))) S := by
  refine runs_Z (d := (d + 1)) (by decide) (Nat.le_of_ble_eq_true rfl) (fun X (hX : XC X G (d + 1) RX7 cX7_isBody 5) hR => ?_)
  show AW X G 0 [.int k, .int f, .int h, .int w, .int b] [] S
  refine aw_iload_0 hX dX7_isBody_0 ?_
  refine aw_iconst hX (v := nI 0) (by decide) dX7_isBody_1 ?_
  refine aw_iconst hX (v := nI 2) (by decide) dX7_isBody_2 ?_
  refine cs_X7_within hX ml_X7_73 dX7_isBody_3 (m_X7_within d G S _ _ _) (Nat.le_of_ble_eq_true rfl) ?_
  first | with_reducible refine aw_ifeqB hX (tgt := 53) dX7_isBody_6 (by decide) (fun c_6 => ?_) (fun c_6 => ?_) | refine aw_ifeq hX (tgt := 53) dX7_isBody_6 (by decide) (fun c_6 => ?_) (fun c_6 => ?_)
  · skip
    refine aw_iconst hX (v := nI 0) (by decide) dX7_isBody_53 ?_
    refine aw_finI (hR _ _ dX7_isBody_54) ?_ ?_
    · first | exact bF (by simp [c_6]) | exact bT (by simp [c_6])
    · rfl
  · skip
    refine aw_iload_1 hX dX7_isBody_9 ?_
    refine aw_iconst hX (v := nI 0) (by decide) dX7_isBody_10 ?_
    refine aw_iconst hX (v := nI 2) (by decide) dX7_isBody_11 ?_
    refine cs_X7_within hX ml_X7_73 dX7_isBody_12 (m_X7_within d G S _ _ _) (Nat.le_of_ble_eq_true rfl) ?_
    first | with_reducible refine aw_ifeqB hX (tgt := 53) dX7_isBody_15 (by decide) (fun c_15 => ?_) (fun c_15 => ?_) | refine aw_ifeq hX (tgt := 53) dX7_isBody_15 (by decide) (fun c_15 => ?_) (fun c_15 => ?_)
    · skip
      refine aw_iconst hX (v := nI 0) (by decide) dX7_isBody_53 ?_
      refine aw_finI (hR _ _ dX7_isBody_54) ?_ ?_
      · first | exact bF (by simp [c_6, c_15]) | exact bT (by simp [c_6, c_15])
      · rfl
    · skip
      refine aw_iload_2 hX dX7_isBody_18 ?_
      refine aw_iconst hX (v := nI 1) (by decide) dX7_isBody_19 ?_
      refine aw_bipush hX (v := nI 30) (by decide) dX7_isBody_20 ?_
      refine cs_X7_within hX ml_X7_73 dX7_isBody_22 (m_X7_within d G S _ _ _) (Nat.le_of_ble_eq_true rfl) ?_
      first | with_reducible refine aw_ifeqB hX (tgt := 53) dX7_isBody_25 (by decide) (fun c_25 => ?_) (fun c_25 => ?_) | refine aw_ifeq hX (tgt := 53) dX7_isBody_25 (by decide) (fun c_25 => ?_) (fun c_25 => ?_)
      · skip
        refine aw_iconst hX (v := nI 0) (by decide) dX7_isBody_53 ?_
        refine aw_finI (hR _ _ dX7_isBody_54) ?_ ?_
        · first | exact bF (by simp [c_6, c_15, c_25]) | exact bT (by simp [c_6, c_15, c_25])
        · rfl
      · skip
        refine aw_iload_3 hX dX7_isBody_28 ?_
        refine aw_bipush hX (v := nI 10) (by decide) dX7_isBody_29 ?_
        refine aw_bipush hX (v := nI 40) (by decide) dX7_isBody_31 ?_
        refine cs_X7_within hX ml_X7_73 dX7_isBody_33 (m_X7_within d G S _ _ _) (Nat.le_of_ble_eq_true rfl) ?_
        first | with_reducible refine aw_ifeqB hX (tgt := 53) dX7_isBody_36 (by decide) (fun c_36 => ?_) (fun c_36 => ?_) | refine aw_ifeq hX (tgt := 53) dX7_isBody_36 (by decide) (fun c_36 => ?_) (fun c_36 => ?_)
        · skip
          refine aw_iconst hX (v := nI 0) (by decide) dX7_isBody_53 ?_
          refine aw_finI (hR _ _ dX7_isBody_54) ?_ ?_
          · first | exact bF (by simp [c_6, c_15, c_25, c_36]) | exact bT (by simp [c_6, c_15, c_25, c_36])
          · rfl
        · skip
          refine aw_iload_4 hX dX7_isBody_39 ?_
          refine aw_iconst hX (v := nI 0) (by decide) dX7_isBody_41 ?_
          refine aw_iconst hX (v := nI 4) (by decide) dX7_isBody_42 ?_
          refine cs_X7_within hX ml_X7_73 dX7_isBody_43 (m_X7_within d G S _ _ _) (Nat.le_of_ble_eq_true rfl) ?_
          first | with_reducible refine aw_ifeqB hX (tgt := 53) dX7_isBody_46 (by decide) (fun c_46 => ?_) (fun c_46 => ?_) | refine aw_ifeq hX (tgt := 53) dX7_isBody_46 (by decide) (fun c_46 => ?_) (fun c_46 => ?_)
          · skip
            refine aw_iconst hX (v := nI 0) (by decide) dX7_isBody_53 ?_
            refine aw_finI (hR _ _ dX7_isBody_54) ?_ ?_
            · first | exact bF (by simp [c_6, c_15, c_25, c_36, c_46]) | exact bT (by simp [c_6, c_15, c_25, c_36, c_46])
            · rfl
          · skip
            refine aw_iconst hX (v := nI 1) (by decide) dX7_isBody_49 ?_
            refine aw_goto hX (tgt := 54) dX7_isBody_50 (by decide) ?_
            refine aw_finI (hR _ _ dX7_isBody_54) ?_ ?_
            · first | exact bF (by simp [c_6, c_15, c_25, c_36, c_46]) | exact bT (by simp [c_6, c_15, c_25, c_36, c_46])
            · rfl
set_option maxHeartbeats 4000000 in
set_option maxRecDepth 100000 in
theorem m_X0_hasRoomFor (d : Nat) (G : GT) (S : St) (n : Nat) (h2 : S.1 2 ≤ 60) (hn : n ≤ 8) : rX0_hasRoomFor G (d + 1) [.ref (gad G 1), .int (nI n)] S (some (.int (bI (decide (S.1 2 + n ≤ 60))))) S := by
  refine runs_Z (d := d) (by decide) (Nat.le_of_ble_eq_true rfl) (fun X (hX : XC X G d RX0 cX0_hasRoomFor 2) hR => ?_)
  show AW X G 0 [.ref (gad G 1), .int (nI n)] [] S
  refine aw_aload_0 hX dX0_hasRoomFor_0 ?_
  refine ag_X0_size hX fl_X0_15 dX0_hasRoomFor_1 ?_
  refine aw_iload_1 hX dX0_hasRoomFor_4 ?_
  first | with_reducible refine aw_iaddN hX dX0_hasRoomFor_5 ?_ | refine aw_iadd hX dX0_hasRoomFor_5 ?_
  refine aw_bipush hX (v := nI 60) (by decide) dX0_hasRoomFor_6 ?_
  first | with_reducible refine aw_icmpgtN hX (tgt := 15) dX0_hasRoomFor_8 (by decide) (by omega) (by omega) (fun c_8 => ?_) (fun c_8 => ?_) | refine aw_jgt hX (tgt := 15) dX0_hasRoomFor_8 (by decide) (fun c_8 => ?_) (fun c_8 => ?_)
  · skip
    refine aw_iconst hX (v := nI 0) (by decide) dX0_hasRoomFor_15 ?_
    refine aw_finI (hR _ _ dX0_hasRoomFor_16) ?_ ?_
    · first | exact bF (by simp; omega) | exact bT (by simp; omega)
    · rfl
  · skip
    refine aw_iconst hX (v := nI 1) (by decide) dX0_hasRoomFor_11 ?_
    refine aw_goto hX (tgt := 16) dX0_hasRoomFor_12 (by decide) ?_
    refine aw_finI (hR _ _ dX0_hasRoomFor_16) ?_ ?_
    · first | exact bF (by simp; omega) | exact bT (by simp; omega)
    · rfl
set_option maxHeartbeats 4000000 in
set_option maxRecDepth 100000 in
theorem m_X0_empty (d : Nat) (G : GT) (S : St)  : rX0_empty G (d + 1) [.ref (gad G 1)] S (some (.int (nI (S.1 2)))) (sN S 2 0) := by
  refine runs_I (d := d) (by decide) (Nat.le_of_ble_eq_true rfl) (fun X (hX : XC X G d RX0 cX0_empty 2) hR => ?_)
  show AW X G 0 [.ref (gad G 1), .null] [] S
  refine aw_aload_0 hX dX0_empty_0 ?_
  refine ag_X0_size hX fl_X0_15 dX0_empty_1 ?_
  refine aw_istore_1 hX rfl (by decide) dX0_empty_4 ?_
  refine aw_aload_0 hX dX0_empty_5 ?_
  refine aw_iconst hX (v := nI 0) (by decide) dX0_empty_6 ?_
  refine ap_X0_size hX fl_X0_15 dX0_empty_7 ?_
  refine aw_iload_1 hX dX0_empty_10 ?_
  refine aw_finI (hR _ _ dX0_empty_11) ?_ ?_
  · rfl
  · rfl
set_option maxHeartbeats 4000000 in
set_option maxRecDepth 100000 in
theorem m_X1_has (d : Nat) (G : GT) (S : St) (f : Int32) (hs : S.1 9 ≤ 10) : rX1_has G (d + 1) [.ref (gad G 5), .int f] S (some (.int (bI (decide (nI 0 ≤ f) && !decide (nI (S.1 9) ≤ f))))) S := by
  refine runs_Z (d := d) (by decide) (Nat.le_of_ble_eq_true rfl) (fun X (hX : XC X G d RX1 cX1_has 2) hR => ?_)
  show AW X G 0 [.ref (gad G 5), .int f] [] S
  refine aw_iload_1 hX dX1_has_0 ?_
  refine aw_iflt hX (tgt := 16) dX1_has_1 (by decide) (fun c_1 => ?_) (fun c_1 => ?_)
  · replace c_1 : ¬ nI 0 ≤ f := i_lt c_1
    refine aw_iconst hX (v := nI 0) (by decide) dX1_has_16 ?_
    refine aw_finI (hR _ _ dX1_has_17) ?_ ?_
    · first | exact bF (by simp [c_1]) | exact bT (by simp [c_1])
    · rfl
  · replace c_1 : nI 0 ≤ f := i_nlt c_1
    refine aw_iload_1 hX dX1_has_4 ?_
    refine aw_aload_0 hX dX1_has_5 ?_
    refine ag_X1_size hX fl_X1_16 dX1_has_6 ?_
    refine aw_jge hX (tgt := 16) dX1_has_9 (by decide) (fun c_9 => ?_) (fun c_9 => ?_)
    · skip
      refine aw_iconst hX (v := nI 0) (by decide) dX1_has_16 ?_
      refine aw_finI (hR _ _ dX1_has_17) ?_ ?_
      · first | exact bF (by simp [c_1, c_9]) | exact bT (by simp [c_1, c_9])
      · rfl
    · skip
      refine aw_iconst hX (v := nI 1) (by decide) dX1_has_12 ?_
      refine aw_goto hX (tgt := 17) dX1_has_13 (by decide) ?_
      refine aw_finI (hR _ _ dX1_has_17) ?_ ?_
      · first | exact bF (by simp [c_1, c_9]) | exact bT (by simp [c_1, c_9])
      · rfl
set_option maxHeartbeats 4000000 in
set_option maxRecDepth 100000 in
theorem m_X2_has (d : Nat) (G : GT) (S : St) (f : Int32) (hs : S.1 7 ≤ 12) : rX2_has G (d + 1) [.ref (gad G 3), .int f] S (some (.int (bI (decide (nI 0 ≤ f) && !decide (nI (S.1 7) ≤ f))))) S := by
  refine runs_Z (d := d) (by decide) (Nat.le_of_ble_eq_true rfl) (fun X (hX : XC X G d RX2 cX2_has 2) hR => ?_)
  show AW X G 0 [.ref (gad G 3), .int f] [] S
  refine aw_iload_1 hX dX2_has_0 ?_
  refine aw_iflt hX (tgt := 16) dX2_has_1 (by decide) (fun c_1 => ?_) (fun c_1 => ?_)
  · replace c_1 : ¬ nI 0 ≤ f := i_lt c_1
    refine aw_iconst hX (v := nI 0) (by decide) dX2_has_16 ?_
    refine aw_finI (hR _ _ dX2_has_17) ?_ ?_
    · first | exact bF (by simp [c_1]) | exact bT (by simp [c_1])
    · rfl
  · replace c_1 : nI 0 ≤ f := i_nlt c_1
    refine aw_iload_1 hX dX2_has_4 ?_
    refine aw_aload_0 hX dX2_has_5 ?_
    refine ag_X2_size hX fl_X2_45 dX2_has_6 ?_
    refine aw_jge hX (tgt := 16) dX2_has_9 (by decide) (fun c_9 => ?_) (fun c_9 => ?_)
    · skip
      refine aw_iconst hX (v := nI 0) (by decide) dX2_has_16 ?_
      refine aw_finI (hR _ _ dX2_has_17) ?_ ?_
      · first | exact bF (by simp [c_1, c_9]) | exact bT (by simp [c_1, c_9])
      · rfl
    · skip
      refine aw_iconst hX (v := nI 1) (by decide) dX2_has_12 ?_
      refine aw_goto hX (tgt := 17) dX2_has_13 (by decide) ?_
      refine aw_finI (hR _ _ dX2_has_17) ?_ ?_
      · first | exact bF (by simp [c_1, c_9]) | exact bT (by simp [c_1, c_9])
      · rfl
set_option maxHeartbeats 4000000 in
set_option maxRecDepth 100000 in
theorem m_X1_isFull (d : Nat) (G : GT) (S : St) (hs : S.1 9 ≤ 10) : rX1_isFull G (d + 1) [.ref (gad G 5)] S (some (.int (bI (decide (10 ≤ S.1 9))))) S := by
  refine runs_Z (d := d) (by decide) (Nat.le_of_ble_eq_true rfl) (fun X (hX : XC X G d RX1 cX1_isFull 1) hR => ?_)
  show AW X G 0 [.ref (gad G 5)] [] S
  refine aw_aload_0 hX dX1_isFull_0 ?_
  refine ag_X1_size hX fl_X1_16 dX1_isFull_1 ?_
  refine aw_bipush hX (v := nI 10) (by decide) dX1_isFull_4 ?_
  first | with_reducible refine aw_icmpltN hX (tgt := 13) dX1_isFull_6 (by decide) (by omega) (by omega) (fun c_6 => ?_) (fun c_6 => ?_) | refine aw_jlt hX (tgt := 13) dX1_isFull_6 (by decide) (fun c_6 => ?_) (fun c_6 => ?_)
  · skip
    refine aw_iconst hX (v := nI 0) (by decide) dX1_isFull_13 ?_
    refine aw_finI (hR _ _ dX1_isFull_14) ?_ ?_
    · first | exact bF (by simp; omega) | exact bT (by simp; omega)
    · rfl
  · skip
    refine aw_iconst hX (v := nI 1) (by decide) dX1_isFull_9 ?_
    refine aw_goto hX (tgt := 14) dX1_isFull_10 (by decide) ?_
    refine aw_finI (hR _ _ dX1_isFull_14) ?_ ?_
    · first | exact bF (by simp; omega) | exact bT (by simp; omega)
    · rfl
set_option maxHeartbeats 4000000 in
set_option maxRecDepth 100000 in
theorem m_X2_isFull (d : Nat) (G : GT) (S : St) (hs : S.1 7 ≤ 12) : rX2_isFull G (d + 1) [.ref (gad G 3)] S (some (.int (bI (decide (12 ≤ S.1 7))))) S := by
  refine runs_Z (d := d) (by decide) (Nat.le_of_ble_eq_true rfl) (fun X (hX : XC X G d RX2 cX2_isFull 1) hR => ?_)
  show AW X G 0 [.ref (gad G 3)] [] S
  refine aw_aload_0 hX dX2_isFull_0 ?_
  refine ag_X2_size hX fl_X2_45 dX2_isFull_1 ?_
  refine aw_bipush hX (v := nI 12) (by decide) dX2_isFull_4 ?_
  first | with_reducible refine aw_icmpltN hX (tgt := 13) dX2_isFull_6 (by decide) (by omega) (by omega) (fun c_6 => ?_) (fun c_6 => ?_) | refine aw_jlt hX (tgt := 13) dX2_isFull_6 (by decide) (fun c_6 => ?_) (fun c_6 => ?_)
  · skip
    refine aw_iconst hX (v := nI 0) (by decide) dX2_isFull_13 ?_
    refine aw_finI (hR _ _ dX2_isFull_14) ?_ ?_
    · first | exact bF (by simp; omega) | exact bT (by simp; omega)
    · rfl
  · skip
    refine aw_iconst hX (v := nI 1) (by decide) dX2_isFull_9 ?_
    refine aw_goto hX (tgt := 14) dX2_isFull_10 (by decide) ?_
    refine aw_finI (hR _ _ dX2_isFull_14) ?_ ?_
    · first | exact bF (by simp; omega) | exact bT (by simp; omega)
    · rfl
set_option maxHeartbeats 4000000 in
set_option maxRecDepth 100000 in
theorem m_X3_isFull (d : Nat) (G : GT) (S : St) (hs : S.1 6 ≤ 6) : rX3_isFull G (d + 1) [.ref (gad G 2)] S (some (.int (bI (decide (6 ≤ S.1 6))))) S := by
  refine runs_Z (d := d) (by decide) (Nat.le_of_ble_eq_true rfl) (fun X (hX : XC X G d RX3 cX3_isFull 1) hR => ?_)
  show AW X G 0 [.ref (gad G 2)] [] S
  refine aw_aload_0 hX dX3_isFull_0 ?_
  refine ag_X3_size hX fl_X3_29 dX3_isFull_1 ?_
  refine aw_bipush hX (v := nI 6) (by decide) dX3_isFull_4 ?_
  first | with_reducible refine aw_icmpltN hX (tgt := 13) dX3_isFull_6 (by decide) (by omega) (by omega) (fun c_6 => ?_) (fun c_6 => ?_) | refine aw_jlt hX (tgt := 13) dX3_isFull_6 (by decide) (fun c_6 => ?_) (fun c_6 => ?_)
  · skip
    refine aw_iconst hX (v := nI 0) (by decide) dX3_isFull_13 ?_
    refine aw_finI (hR _ _ dX3_isFull_14) ?_ ?_
    · first | exact bF (by simp; omega) | exact bT (by simp; omega)
    · rfl
  · skip
    refine aw_iconst hX (v := nI 1) (by decide) dX3_isFull_9 ?_
    refine aw_goto hX (tgt := 14) dX3_isFull_10 (by decide) ?_
    refine aw_finI (hR _ _ dX3_isFull_14) ?_ ?_
    · first | exact bF (by simp; omega) | exact bT (by simp; omega)
    · rfl
set_option maxHeartbeats 4000000 in
set_option maxRecDepth 100000 in
theorem m_X4_isFull (d : Nat) (G : GT) (S : St) (hs : S.1 8 ≤ 30) : rX4_isFull G (d + 1) [.ref (gad G 4)] S (some (.int (bI (decide (30 ≤ S.1 8))))) S := by
  refine runs_Z (d := d) (by decide) (Nat.le_of_ble_eq_true rfl) (fun X (hX : XC X G d RX4 cX4_isFull 1) hR => ?_)
  show AW X G 0 [.ref (gad G 4)] [] S
  refine aw_aload_0 hX dX4_isFull_0 ?_
  refine ag_X4_size hX fl_X4_24 dX4_isFull_1 ?_
  refine aw_bipush hX (v := nI 30) (by decide) dX4_isFull_4 ?_
  first | with_reducible refine aw_icmpltN hX (tgt := 13) dX4_isFull_6 (by decide) (by omega) (by omega) (fun c_6 => ?_) (fun c_6 => ?_) | refine aw_jlt hX (tgt := 13) dX4_isFull_6 (by decide) (fun c_6 => ?_) (fun c_6 => ?_)
  · skip
    refine aw_iconst hX (v := nI 0) (by decide) dX4_isFull_13 ?_
    refine aw_finI (hR _ _ dX4_isFull_14) ?_ ?_
    · first | exact bF (by simp; omega) | exact bT (by simp; omega)
    · rfl
  · skip
    refine aw_iconst hX (v := nI 1) (by decide) dX4_isFull_9 ?_
    refine aw_goto hX (tgt := 14) dX4_isFull_10 (by decide) ?_
    refine aw_finI (hR _ _ dX4_isFull_14) ?_ ?_
    · first | exact bF (by simp; omega) | exact bT (by simp; omega)
    · rfl
set_option maxHeartbeats 4000000 in
set_option maxRecDepth 100000 in
theorem m_X5_isFull (d : Nat) (G : GT) (S : St) (hs : S.1 10 ≤ 100) : rX5_isFull G (d + 1) [.ref (gad G 6)] S (some (.int (bI (decide (100 ≤ S.1 10))))) S := by
  refine runs_Z (d := d) (by decide) (Nat.le_of_ble_eq_true rfl) (fun X (hX : XC X G d RX5 cX5_isFull 1) hR => ?_)
  show AW X G 0 [.ref (gad G 6)] [] S
  refine aw_aload_0 hX dX5_isFull_0 ?_
  refine ag_X5_size hX fl_X5_24 dX5_isFull_1 ?_
  refine aw_bipush hX (v := nI 100) (by decide) dX5_isFull_4 ?_
  first | with_reducible refine aw_icmpltN hX (tgt := 13) dX5_isFull_6 (by decide) (by omega) (by omega) (fun c_6 => ?_) (fun c_6 => ?_) | refine aw_jlt hX (tgt := 13) dX5_isFull_6 (by decide) (fun c_6 => ?_) (fun c_6 => ?_)
  · skip
    refine aw_iconst hX (v := nI 0) (by decide) dX5_isFull_13 ?_
    refine aw_finI (hR _ _ dX5_isFull_14) ?_ ?_
    · first | exact bF (by simp; omega) | exact bT (by simp; omega)
    · rfl
  · skip
    refine aw_iconst hX (v := nI 1) (by decide) dX5_isFull_9 ?_
    refine aw_goto hX (tgt := 14) dX5_isFull_10 (by decide) ?_
    refine aw_finI (hR _ _ dX5_isFull_14) ?_ ?_
    · first | exact bF (by simp; omega) | exact bT (by simp; omega)
    · rfl
set_option maxHeartbeats 4000000 in
set_option maxRecDepth 100000 in
theorem m_X1_add (d : Nat) (G : GT) (S : St) (f dy : Int32) (hs : S.1 9 < 10) : rX1_add G (d + 1) [.ref (gad G 5), .int f, .int dy] S (some (.int (nI (S.1 9)))) (sN (sA (sA S 34 (S.1 9) f) 35 (S.1 9) dy) 9 (S.1 9 + 1)) := by
  refine runs_I (d := d) (by decide) (Nat.le_of_ble_eq_true rfl) (fun X (hX : XC X G d RX1 cX1_add 3) hR => ?_)
  show AW X G 0 [.ref (gad G 5), .int f, .int dy] [] S
  refine aw_aload_0 hX dX1_add_0 ?_
  refine ag_X1_flue hX fl_X1_9 dX1_add_1 ?_
  refine aw_aload_0 hX dX1_add_4 ?_
  refine ag_X1_size hX fl_X1_16 dX1_add_5 ?_
  refine aw_iload_1 hX dX1_add_8 ?_
  refine aw_iast hX dX1_add_9 rfl (fun _ => rfl) (by decide) (by omega) ?_
  refine aw_aload_0 hX dX1_add_10 ?_
  refine ag_X1_day hX fl_X1_13 dX1_add_11 ?_
  try simp only [sN_N, sN_A, sN_L, sN_R, sA_N, sA_A, sA_L, sA_R, sL_N, sL_A, sL_L, sL_R, sR_N, sR_A, sR_L, sR_R, reduceIte]
  refine aw_aload_0 hX dX1_add_14 ?_
  refine ag_X1_size hX fl_X1_16 dX1_add_15 ?_
  try simp only [sN_N, sN_A, sN_L, sN_R, sA_N, sA_A, sA_L, sA_R, sL_N, sL_A, sL_L, sL_R, sR_N, sR_A, sR_L, sR_R, reduceIte]
  refine aw_iload_2 hX dX1_add_18 ?_
  refine aw_iast hX dX1_add_19 rfl (fun _ => rfl) (by decide) (by omega) ?_
  refine aw_aload_0 hX dX1_add_20 ?_
  refine aw_dup hX rfl dX1_add_21 ?_
  refine ag_X1_size hX fl_X1_16 dX1_add_22 ?_
  try simp only [sN_N, sN_A, sN_L, sN_R, sA_N, sA_A, sA_L, sA_R, sL_N, sL_A, sL_L, sL_R, sR_N, sR_A, sR_L, sR_R, reduceIte]
  refine aw_iconst hX (v := nI 1) (by decide) dX1_add_25 ?_
  first | with_reducible refine aw_iaddN hX dX1_add_26 ?_ | refine aw_iadd hX dX1_add_26 ?_
  refine ap_X1_size hX fl_X1_16 dX1_add_27 ?_
  refine aw_aload_0 hX dX1_add_30 ?_
  refine ag_X1_size hX fl_X1_16 dX1_add_31 ?_
  try simp only [sN_N, sN_A, sN_L, sN_R, sA_N, sA_A, sA_L, sA_R, sL_N, sL_A, sL_L, sL_R, sR_N, sR_A, sR_L, sR_R, reduceIte]
  refine aw_iconst hX (v := nI 1) (by decide) dX1_add_34 ?_
  first | with_reducible refine aw_isubN hX (by omega) dX1_add_35 ?_ | refine aw_isub hX dX1_add_35 ?_
  refine aw_finI (hR _ _ dX1_add_36) ?_ ?_
  · first | rfl | simp
  · rfl
set_option maxHeartbeats 4000000 in
set_option maxRecDepth 100000 in
theorem m_X4_add (d : Nat) (G : GT) (S : St) (f dy td : Int32) (b : Bool) (hs : S.1 8 < 30) : rX4_add G (d + 1) [.ref (gad G 4), .int f, .int dy, .int td, .int (bI b)] S (some (.int (nI (S.1 8)))) (sN (sA (sA (sA (sA S 30 (S.1 8) f) 31 (S.1 8) dy) 32 (S.1 8) td) 33 (S.1 8) (bI b)) 8 (S.1 8 + 1)) := by
  refine runs_I (d := d) (by decide) (Nat.le_of_ble_eq_true rfl) (fun X (hX : XC X G d RX4 cX4_add 5) hR => ?_)
  show AW X G 0 [.ref (gad G 4), .int f, .int dy, .int td, .int (bI b)] [] S
  refine aw_aload_0 hX dX4_add_0 ?_
  refine ag_X4_flue hX fl_X4_11 dX4_add_1 ?_
  refine aw_aload_0 hX dX4_add_4 ?_
  refine ag_X4_size hX fl_X4_24 dX4_add_5 ?_
  refine aw_iload_1 hX dX4_add_8 ?_
  refine aw_iast hX dX4_add_9 rfl (fun _ => rfl) (by decide) (by omega) ?_
  refine aw_aload_0 hX dX4_add_10 ?_
  refine ag_X4_day hX fl_X4_15 dX4_add_11 ?_
  try simp only [sN_N, sN_A, sN_L, sN_R, sA_N, sA_A, sA_L, sA_R, sL_N, sL_A, sL_L, sL_R, sR_N, sR_A, sR_L, sR_R, reduceIte]
  refine aw_aload_0 hX dX4_add_14 ?_
  refine ag_X4_size hX fl_X4_24 dX4_add_15 ?_
  try simp only [sN_N, sN_A, sN_L, sN_R, sA_N, sA_A, sA_L, sA_R, sL_N, sL_A, sL_L, sL_R, sR_N, sR_A, sR_L, sR_R, reduceIte]
  refine aw_iload_2 hX dX4_add_18 ?_
  refine aw_iast hX dX4_add_19 rfl (fun _ => rfl) (by decide) (by omega) ?_
  refine aw_aload_0 hX dX4_add_20 ?_
  refine ag_X4_told hX fl_X4_18 dX4_add_21 ?_
  try simp only [sN_N, sN_A, sN_L, sN_R, sA_N, sA_A, sA_L, sA_R, sL_N, sL_A, sL_L, sL_R, sR_N, sR_A, sR_L, sR_R, reduceIte]
  refine aw_aload_0 hX dX4_add_24 ?_
  refine ag_X4_size hX fl_X4_24 dX4_add_25 ?_
  try simp only [sN_N, sN_A, sN_L, sN_R, sA_N, sA_A, sA_L, sA_R, sL_N, sL_A, sL_L, sL_R, sR_N, sR_A, sR_L, sR_R, reduceIte]
  refine aw_iload_3 hX dX4_add_28 ?_
  refine aw_iast hX dX4_add_29 rfl (fun _ => rfl) (by decide) (by omega) ?_
  refine aw_aload_0 hX dX4_add_30 ?_
  refine ag_X4_finding hX fl_X4_21 dX4_add_31 ?_
  try simp only [sN_N, sN_A, sN_L, sN_R, sA_N, sA_A, sA_L, sA_R, sL_N, sL_A, sL_L, sL_R, sR_N, sR_A, sR_L, sR_R, reduceIte]
  refine aw_aload_0 hX dX4_add_34 ?_
  refine ag_X4_size hX fl_X4_24 dX4_add_35 ?_
  try simp only [sN_N, sN_A, sN_L, sN_R, sA_N, sA_A, sA_L, sA_R, sL_N, sL_A, sL_L, sL_R, sR_N, sR_A, sR_L, sR_R, reduceIte]
  refine aw_iload_4 hX dX4_add_38 ?_
  first | with_reducible refine aw_ifeqB hX (tgt := 47) dX4_add_40 (by decide) (fun c_40 => ?_) (fun c_40 => ?_) | refine aw_ifeq hX (tgt := 47) dX4_add_40 (by decide) (fun c_40 => ?_) (fun c_40 => ?_)
  · subst c_40
    refine aw_iconst hX (v := nI 0) (by decide) dX4_add_47 ?_
    refine aw_iast hX dX4_add_48 rfl (fun _ => rfl) (by decide) (by omega) ?_
    refine aw_aload_0 hX dX4_add_49 ?_
    refine aw_dup hX rfl dX4_add_50 ?_
    refine ag_X4_size hX fl_X4_24 dX4_add_51 ?_
    try simp only [sN_N, sN_A, sN_L, sN_R, sA_N, sA_A, sA_L, sA_R, sL_N, sL_A, sL_L, sL_R, sR_N, sR_A, sR_L, sR_R, reduceIte]
    refine aw_iconst hX (v := nI 1) (by decide) dX4_add_54 ?_
    first | with_reducible refine aw_iaddN hX dX4_add_55 ?_ | refine aw_iadd hX dX4_add_55 ?_
    refine ap_X4_size hX fl_X4_24 dX4_add_56 ?_
    refine aw_aload_0 hX dX4_add_59 ?_
    refine ag_X4_size hX fl_X4_24 dX4_add_60 ?_
    try simp only [sN_N, sN_A, sN_L, sN_R, sA_N, sA_A, sA_L, sA_R, sL_N, sL_A, sL_L, sL_R, sR_N, sR_A, sR_L, sR_R, reduceIte]
    refine aw_iconst hX (v := nI 1) (by decide) dX4_add_63 ?_
    first | with_reducible refine aw_isubN hX (by omega) dX4_add_64 ?_ | refine aw_isub hX dX4_add_64 ?_
    refine aw_finI (hR _ _ dX4_add_65) ?_ ?_
    · first | rfl | simp
    · rfl
  · subst c_40
    refine aw_iconst hX (v := nI 1) (by decide) dX4_add_43 ?_
    refine aw_goto hX (tgt := 48) dX4_add_44 (by decide) ?_
    refine aw_iast hX dX4_add_48 rfl (fun _ => rfl) (by decide) (by omega) ?_
    refine aw_aload_0 hX dX4_add_49 ?_
    refine aw_dup hX rfl dX4_add_50 ?_
    refine ag_X4_size hX fl_X4_24 dX4_add_51 ?_
    try simp only [sN_N, sN_A, sN_L, sN_R, sA_N, sA_A, sA_L, sA_R, sL_N, sL_A, sL_L, sL_R, sR_N, sR_A, sR_L, sR_R, reduceIte]
    refine aw_iconst hX (v := nI 1) (by decide) dX4_add_54 ?_
    first | with_reducible refine aw_iaddN hX dX4_add_55 ?_ | refine aw_iadd hX dX4_add_55 ?_
    refine ap_X4_size hX fl_X4_24 dX4_add_56 ?_
    refine aw_aload_0 hX dX4_add_59 ?_
    refine ag_X4_size hX fl_X4_24 dX4_add_60 ?_
    try simp only [sN_N, sN_A, sN_L, sN_R, sA_N, sA_A, sA_L, sA_R, sL_N, sL_A, sL_L, sL_R, sR_N, sR_A, sR_L, sR_R, reduceIte]
    refine aw_iconst hX (v := nI 1) (by decide) dX4_add_63 ?_
    first | with_reducible refine aw_isubN hX (by omega) dX4_add_64 ?_ | refine aw_isub hX dX4_add_64 ?_
    refine aw_finI (hR _ _ dX4_add_65) ?_ ?_
    · first | rfl | simp
    · rfl
set_option maxHeartbeats 4000000 in
set_option maxRecDepth 100000 in
theorem m_X5_add (d : Nat) (G : GT) (S : St) (f dy hd fe : Int32) (hs : S.1 10 < 100) : rX5_add G (d + 1) [.ref (gad G 6), .int f, .int dy, .int hd, .int fe] S none (sN (sA (sA (sA (sA S 36 (S.1 10) f) 37 (S.1 10) dy) 38 (S.1 10) hd) 39 (S.1 10) fe) 10 (S.1 10 + 1)) := by
  refine runs_V (d := d) (by decide) (Nat.le_of_ble_eq_true rfl) (fun X (hX : XC X G d RX5 cX5_add 5) hR => ?_)
  show AW X G 0 [.ref (gad G 6), .int f, .int dy, .int hd, .int fe] [] S
  refine aw_aload_0 hX dX5_add_0 ?_
  refine ag_X5_flue hX fl_X5_11 dX5_add_1 ?_
  refine aw_aload_0 hX dX5_add_4 ?_
  refine ag_X5_size hX fl_X5_24 dX5_add_5 ?_
  refine aw_iload_1 hX dX5_add_8 ?_
  refine aw_iast hX dX5_add_9 rfl (fun _ => rfl) (by decide) (by omega) ?_
  refine aw_aload_0 hX dX5_add_10 ?_
  refine ag_X5_day hX fl_X5_15 dX5_add_11 ?_
  try simp only [sN_N, sN_A, sN_L, sN_R, sA_N, sA_A, sA_L, sA_R, sL_N, sL_A, sL_L, sL_R, sR_N, sR_A, sR_L, sR_R, reduceIte]
  refine aw_aload_0 hX dX5_add_14 ?_
  refine ag_X5_size hX fl_X5_24 dX5_add_15 ?_
  try simp only [sN_N, sN_A, sN_L, sN_R, sA_N, sA_A, sA_L, sA_R, sL_N, sL_A, sL_L, sL_R, sR_N, sR_A, sR_L, sR_R, reduceIte]
  refine aw_iload_2 hX dX5_add_18 ?_
  refine aw_iast hX dX5_add_19 rfl (fun _ => rfl) (by decide) (by omega) ?_
  refine aw_aload_0 hX dX5_add_20 ?_
  refine ag_X5_hand hX fl_X5_18 dX5_add_21 ?_
  try simp only [sN_N, sN_A, sN_L, sN_R, sA_N, sA_A, sA_L, sA_R, sL_N, sL_A, sL_L, sL_R, sR_N, sR_A, sR_L, sR_R, reduceIte]
  refine aw_aload_0 hX dX5_add_24 ?_
  refine ag_X5_size hX fl_X5_24 dX5_add_25 ?_
  try simp only [sN_N, sN_A, sN_L, sN_R, sA_N, sA_A, sA_L, sA_R, sL_N, sL_A, sL_L, sL_R, sR_N, sR_A, sR_L, sR_R, reduceIte]
  refine aw_iload_3 hX dX5_add_28 ?_
  refine aw_iast hX dX5_add_29 rfl (fun _ => rfl) (by decide) (by omega) ?_
  refine aw_aload_0 hX dX5_add_30 ?_
  refine ag_X5_fee hX fl_X5_21 dX5_add_31 ?_
  try simp only [sN_N, sN_A, sN_L, sN_R, sA_N, sA_A, sA_L, sA_R, sL_N, sL_A, sL_L, sL_R, sR_N, sR_A, sR_L, sR_R, reduceIte]
  refine aw_aload_0 hX dX5_add_34 ?_
  refine ag_X5_size hX fl_X5_24 dX5_add_35 ?_
  try simp only [sN_N, sN_A, sN_L, sN_R, sA_N, sA_A, sA_L, sA_R, sL_N, sL_A, sL_L, sL_R, sR_N, sR_A, sR_L, sR_R, reduceIte]
  refine aw_iload_4 hX dX5_add_38 ?_
  refine aw_iast hX dX5_add_40 rfl (fun _ => rfl) (by decide) (by omega) ?_
  refine aw_aload_0 hX dX5_add_41 ?_
  refine aw_dup hX rfl dX5_add_42 ?_
  refine ag_X5_size hX fl_X5_24 dX5_add_43 ?_
  try simp only [sN_N, sN_A, sN_L, sN_R, sA_N, sA_A, sA_L, sA_R, sL_N, sL_A, sL_L, sL_R, sR_N, sR_A, sR_L, sR_R, reduceIte]
  refine aw_iconst hX (v := nI 1) (by decide) dX5_add_46 ?_
  first | with_reducible refine aw_iaddN hX dX5_add_47 ?_ | refine aw_iadd hX dX5_add_47 ?_
  refine ap_X5_size hX fl_X5_24 dX5_add_48 ?_
  refine aw_finV (hR _ _ dX5_add_51) ?_
  rfl
set_option maxHeartbeats 4000000 in
set_option maxRecDepth 100000 in
theorem m_X2_setBody (d : Nat) (G : GT) (S : St) (k f h w b : Int32) (hs : S.1 7 < 12) : rX2_setBody G (d + 1) [.ref (gad G 3), .int k, .int f, .int h, .int w, .int b] S none (sA (sA (sA (sA (sA S 19 (S.1 7) k) 20 (S.1 7) f) 21 (S.1 7) h) 22 (S.1 7) w) 23 (S.1 7) b) := by
  refine runs_V (d := d) (by decide) (Nat.le_of_ble_eq_true rfl) (fun X (hX : XC X G d RX2 cX2_setBody 6) hR => ?_)
  show AW X G 0 [.ref (gad G 3), .int k, .int f, .int h, .int w, .int b] [] S
  refine aw_aload_0 hX dX2_setBody_0 ?_
  refine ag_X2_kind hX fl_X2_11 dX2_setBody_1 ?_
  refine aw_aload_0 hX dX2_setBody_4 ?_
  refine ag_X2_size hX fl_X2_45 dX2_setBody_5 ?_
  refine aw_iload_1 hX dX2_setBody_8 ?_
  refine aw_iast hX dX2_setBody_9 rfl (fun _ => rfl) (by decide) (by omega) ?_
  refine aw_aload_0 hX dX2_setBody_10 ?_
  refine ag_X2_fuel hX fl_X2_15 dX2_setBody_11 ?_
  try simp only [sN_N, sN_A, sN_L, sN_R, sA_N, sA_A, sA_L, sA_R, sL_N, sL_A, sL_L, sL_R, sR_N, sR_A, sR_L, sR_R, reduceIte]
  refine aw_aload_0 hX dX2_setBody_14 ?_
  refine ag_X2_size hX fl_X2_45 dX2_setBody_15 ?_
  try simp only [sN_N, sN_A, sN_L, sN_R, sA_N, sA_A, sA_L, sA_R, sL_N, sL_A, sL_L, sL_R, sR_N, sR_A, sR_L, sR_R, reduceIte]
  refine aw_iload_2 hX dX2_setBody_18 ?_
  refine aw_iast hX dX2_setBody_19 rfl (fun _ => rfl) (by decide) (by omega) ?_
  refine aw_aload_0 hX dX2_setBody_20 ?_
  refine ag_X2_height hX fl_X2_18 dX2_setBody_21 ?_
  try simp only [sN_N, sN_A, sN_L, sN_R, sA_N, sA_A, sA_L, sA_R, sL_N, sL_A, sL_L, sL_R, sR_N, sR_A, sR_L, sR_R, reduceIte]
  refine aw_aload_0 hX dX2_setBody_24 ?_
  refine ag_X2_size hX fl_X2_45 dX2_setBody_25 ?_
  try simp only [sN_N, sN_A, sN_L, sN_R, sA_N, sA_A, sA_L, sA_R, sL_N, sL_A, sL_L, sL_R, sR_N, sR_A, sR_L, sR_R, reduceIte]
  refine aw_iload_3 hX dX2_setBody_28 ?_
  refine aw_iast hX dX2_setBody_29 rfl (fun _ => rfl) (by decide) (by omega) ?_
  refine aw_aload_0 hX dX2_setBody_30 ?_
  refine ag_X2_width hX fl_X2_21 dX2_setBody_31 ?_
  try simp only [sN_N, sN_A, sN_L, sN_R, sA_N, sA_A, sA_L, sA_R, sL_N, sL_A, sL_L, sL_R, sR_N, sR_A, sR_L, sR_R, reduceIte]
  refine aw_aload_0 hX dX2_setBody_34 ?_
  refine ag_X2_size hX fl_X2_45 dX2_setBody_35 ?_
  try simp only [sN_N, sN_A, sN_L, sN_R, sA_N, sA_A, sA_L, sA_R, sL_N, sL_A, sL_L, sL_R, sR_N, sR_A, sR_L, sR_R, reduceIte]
  refine aw_iload_4 hX dX2_setBody_38 ?_
  refine aw_iast hX dX2_setBody_40 rfl (fun _ => rfl) (by decide) (by omega) ?_
  refine aw_aload_0 hX dX2_setBody_41 ?_
  refine ag_X2_bends hX fl_X2_24 dX2_setBody_42 ?_
  try simp only [sN_N, sN_A, sN_L, sN_R, sA_N, sA_A, sA_L, sA_R, sL_N, sL_A, sL_L, sL_R, sR_N, sR_A, sR_L, sR_R, reduceIte]
  refine aw_aload_0 hX dX2_setBody_45 ?_
  refine ag_X2_size hX fl_X2_45 dX2_setBody_46 ?_
  try simp only [sN_N, sN_A, sN_L, sN_R, sA_N, sA_A, sA_L, sA_R, sL_N, sL_A, sL_L, sL_R, sR_N, sR_A, sR_L, sR_R, reduceIte]
  refine aw_iload_5 hX dX2_setBody_49 ?_
  refine aw_iast hX dX2_setBody_51 rfl (fun _ => rfl) (by decide) (by omega) ?_
  refine aw_finV (hR _ _ dX2_setBody_52) ?_
  rfl
set_option maxHeartbeats 4000000 in
set_option maxRecDepth 100000 in
theorem m_X2_setPlace (d : Nat) (G : GT) (S : St) (x y h dy : Int32) (hs : S.1 7 < 12) : rX2_setPlace G (d + 1) [.ref (gad G 3), .int x, .int y, .int h, .int dy] S none (sA (sA (sA (sA S 24 (S.1 7) x) 25 (S.1 7) y) 26 (S.1 7) h) 27 (S.1 7) dy) := by
  refine runs_V (d := d) (by decide) (Nat.le_of_ble_eq_true rfl) (fun X (hX : XC X G d RX2 cX2_setPlace 5) hR => ?_)
  show AW X G 0 [.ref (gad G 3), .int x, .int y, .int h, .int dy] [] S
  refine aw_aload_0 hX dX2_setPlace_0 ?_
  refine ag_X2_x hX fl_X2_27 dX2_setPlace_1 ?_
  refine aw_aload_0 hX dX2_setPlace_4 ?_
  refine ag_X2_size hX fl_X2_45 dX2_setPlace_5 ?_
  refine aw_iload_1 hX dX2_setPlace_8 ?_
  refine aw_iast hX dX2_setPlace_9 rfl (fun _ => rfl) (by decide) (by omega) ?_
  refine aw_aload_0 hX dX2_setPlace_10 ?_
  refine ag_X2_y hX fl_X2_30 dX2_setPlace_11 ?_
  try simp only [sN_N, sN_A, sN_L, sN_R, sA_N, sA_A, sA_L, sA_R, sL_N, sL_A, sL_L, sL_R, sR_N, sR_A, sR_L, sR_R, reduceIte]
  refine aw_aload_0 hX dX2_setPlace_14 ?_
  refine ag_X2_size hX fl_X2_45 dX2_setPlace_15 ?_
  try simp only [sN_N, sN_A, sN_L, sN_R, sA_N, sA_A, sA_L, sA_R, sL_N, sL_A, sL_L, sL_R, sR_N, sR_A, sR_L, sR_R, reduceIte]
  refine aw_iload_2 hX dX2_setPlace_18 ?_
  refine aw_iast hX dX2_setPlace_19 rfl (fun _ => rfl) (by decide) (by omega) ?_
  refine aw_aload_0 hX dX2_setPlace_20 ?_
  refine ag_X2_hand hX fl_X2_33 dX2_setPlace_21 ?_
  try simp only [sN_N, sN_A, sN_L, sN_R, sA_N, sA_A, sA_L, sA_R, sL_N, sL_A, sL_L, sL_R, sR_N, sR_A, sR_L, sR_R, reduceIte]
  refine aw_aload_0 hX dX2_setPlace_24 ?_
  refine ag_X2_size hX fl_X2_45 dX2_setPlace_25 ?_
  try simp only [sN_N, sN_A, sN_L, sN_R, sA_N, sA_A, sA_L, sA_R, sL_N, sL_A, sL_L, sL_R, sR_N, sR_A, sR_L, sR_R, reduceIte]
  refine aw_iload_3 hX dX2_setPlace_28 ?_
  refine aw_iast hX dX2_setPlace_29 rfl (fun _ => rfl) (by decide) (by omega) ?_
  refine aw_aload_0 hX dX2_setPlace_30 ?_
  refine ag_X2_came hX fl_X2_36 dX2_setPlace_31 ?_
  try simp only [sN_N, sN_A, sN_L, sN_R, sA_N, sA_A, sA_L, sA_R, sL_N, sL_A, sL_L, sL_R, sR_N, sR_A, sR_L, sR_R, reduceIte]
  refine aw_aload_0 hX dX2_setPlace_34 ?_
  refine ag_X2_size hX fl_X2_45 dX2_setPlace_35 ?_
  try simp only [sN_N, sN_A, sN_L, sN_R, sA_N, sA_A, sA_L, sA_R, sL_N, sL_A, sL_L, sL_R, sR_N, sR_A, sR_L, sR_R, reduceIte]
  refine aw_iload_4 hX dX2_setPlace_38 ?_
  refine aw_iast hX dX2_setPlace_40 rfl (fun _ => rfl) (by decide) (by omega) ?_
  refine aw_finV (hR _ _ dX2_setPlace_41) ?_
  rfl
set_option maxHeartbeats 4000000 in
set_option maxRecDepth 100000 in
theorem m_X2_add (d : Nat) (G : GT) (S : St) (hs : S.1 7 < 12) : rX2_add G (d + 1) [.ref (gad G 3)] S (some (.int (nI (S.1 7)))) (sN (sA S 28 (S.1 7) (nI 0)) 7 (S.1 7 + 1)) := by
  refine runs_I (d := d) (by decide) (Nat.le_of_ble_eq_true rfl) (fun X (hX : XC X G d RX2 cX2_add 1) hR => ?_)
  show AW X G 0 [.ref (gad G 3)] [] S
  refine aw_aload_0 hX dX2_add_0 ?_
  refine ag_X2_refusals hX fl_X2_39 dX2_add_1 ?_
  refine aw_aload_0 hX dX2_add_4 ?_
  refine ag_X2_size hX fl_X2_45 dX2_add_5 ?_
  refine aw_iconst hX (v := nI 0) (by decide) dX2_add_8 ?_
  refine aw_iast hX dX2_add_9 rfl (fun _ => rfl) (by decide) (by omega) ?_
  refine aw_aload_0 hX dX2_add_10 ?_
  refine aw_dup hX rfl dX2_add_11 ?_
  refine ag_X2_size hX fl_X2_45 dX2_add_12 ?_
  try simp only [sN_N, sN_A, sN_L, sN_R, sA_N, sA_A, sA_L, sA_R, sL_N, sL_A, sL_L, sL_R, sR_N, sR_A, sR_L, sR_R, reduceIte]
  refine aw_iconst hX (v := nI 1) (by decide) dX2_add_15 ?_
  first | with_reducible refine aw_iaddN hX dX2_add_16 ?_ | refine aw_iadd hX dX2_add_16 ?_
  refine ap_X2_size hX fl_X2_45 dX2_add_17 ?_
  refine aw_aload_0 hX dX2_add_20 ?_
  refine ag_X2_size hX fl_X2_45 dX2_add_21 ?_
  try simp only [sN_N, sN_A, sN_L, sN_R, sA_N, sA_A, sA_L, sA_R, sL_N, sL_A, sL_L, sL_R, sR_N, sR_A, sR_L, sR_R, reduceIte]
  refine aw_iconst hX (v := nI 1) (by decide) dX2_add_24 ?_
  first | with_reducible refine aw_isubN hX (by omega) dX2_add_25 ?_ | refine aw_isub hX dX2_add_25 ?_
  refine aw_finI (hR _ _ dX2_add_26) ?_ ?_
  · first | rfl | simp
  · rfl
set_option maxHeartbeats 4000000 in
set_option maxRecDepth 100000 in
theorem m_X6_restart (d : Nat) (G : GT) (S : St)  : rX6_restart G (d + 1) [.ref (gad G 7)] S none (sN S 11 0) := by
  refine runs_V (d := d) (by decide) (Nat.le_of_ble_eq_true rfl) (fun X (hX : XC X G d RX6 cX6_restart 1) hR => ?_)
  show AW X G 0 [.ref (gad G 7)] [] S
  refine aw_aload_0 hX dX6_restart_0 ?_
  refine aw_iconst hX (v := nI 0) (by decide) dX6_restart_1 ?_
  refine ap_X6_size hX fl_X6_31 dX6_restart_2 ?_
  refine aw_finV (hR _ _ dX6_restart_5) ?_
  rfl
set_option maxHeartbeats 4000000 in
set_option maxRecDepth 100000 in
theorem m_X6_addStop (d : Nat) (G : GT) (S : St) (f x y : Int32) (hs : S.1 11 < 6) : rX6_addStop G (d + 1) [.ref (gad G 7), .int f, .int x, .int y] S none (sN (sA (sA (sA S 40 (S.1 11) f) 41 (S.1 11) x) 42 (S.1 11) y) 11 (S.1 11 + 1)) := by
  refine runs_V (d := d) (by decide) (Nat.le_of_ble_eq_true rfl) (fun X (hX : XC X G d RX6 cX6_addStop 4) hR => ?_)
  show AW X G 0 [.ref (gad G 7), .int f, .int x, .int y] [] S
  refine aw_aload_0 hX dX6_addStop_0 ?_
  refine ag_X6_size hX fl_X6_31 dX6_addStop_1 ?_
  refine aw_bipush hX (v := nI 6) (by decide) dX6_addStop_4 ?_
  first | with_reducible refine aw_icmpgeN hX (tgt := 49) dX6_addStop_6 (by decide) (by omega) (by omega) (fun c_6 => ?_) (fun c_6 => ?_) | refine aw_jge hX (tgt := 49) dX6_addStop_6 (by decide) (fun c_6 => ?_) (fun c_6 => ?_)
  · exact absurd c_6 (by omega)
  · skip
    refine aw_aload_0 hX dX6_addStop_9 ?_
    refine ag_X6_flue hX fl_X6_11 dX6_addStop_10 ?_
    refine aw_aload_0 hX dX6_addStop_13 ?_
    refine ag_X6_size hX fl_X6_31 dX6_addStop_14 ?_
    refine aw_iload_1 hX dX6_addStop_17 ?_
    refine aw_iast hX dX6_addStop_18 rfl (fun _ => rfl) (by decide) (by omega) ?_
    refine aw_aload_0 hX dX6_addStop_19 ?_
    refine ag_X6_x hX fl_X6_15 dX6_addStop_20 ?_
    try simp only [sN_N, sN_A, sN_L, sN_R, sA_N, sA_A, sA_L, sA_R, sL_N, sL_A, sL_L, sL_R, sR_N, sR_A, sR_L, sR_R, reduceIte]
    refine aw_aload_0 hX dX6_addStop_23 ?_
    refine ag_X6_size hX fl_X6_31 dX6_addStop_24 ?_
    try simp only [sN_N, sN_A, sN_L, sN_R, sA_N, sA_A, sA_L, sA_R, sL_N, sL_A, sL_L, sL_R, sR_N, sR_A, sR_L, sR_R, reduceIte]
    refine aw_iload_2 hX dX6_addStop_27 ?_
    refine aw_iast hX dX6_addStop_28 rfl (fun _ => rfl) (by decide) (by omega) ?_
    refine aw_aload_0 hX dX6_addStop_29 ?_
    refine ag_X6_y hX fl_X6_18 dX6_addStop_30 ?_
    try simp only [sN_N, sN_A, sN_L, sN_R, sA_N, sA_A, sA_L, sA_R, sL_N, sL_A, sL_L, sL_R, sR_N, sR_A, sR_L, sR_R, reduceIte]
    refine aw_aload_0 hX dX6_addStop_33 ?_
    refine ag_X6_size hX fl_X6_31 dX6_addStop_34 ?_
    try simp only [sN_N, sN_A, sN_L, sN_R, sA_N, sA_A, sA_L, sA_R, sL_N, sL_A, sL_L, sL_R, sR_N, sR_A, sR_L, sR_R, reduceIte]
    refine aw_iload_3 hX dX6_addStop_37 ?_
    refine aw_iast hX dX6_addStop_38 rfl (fun _ => rfl) (by decide) (by omega) ?_
    refine aw_aload_0 hX dX6_addStop_39 ?_
    refine aw_dup hX rfl dX6_addStop_40 ?_
    refine ag_X6_size hX fl_X6_31 dX6_addStop_41 ?_
    try simp only [sN_N, sN_A, sN_L, sN_R, sA_N, sA_A, sA_L, sA_R, sL_N, sL_A, sL_L, sL_R, sR_N, sR_A, sR_L, sR_R, reduceIte]
    refine aw_iconst hX (v := nI 1) (by decide) dX6_addStop_44 ?_
    first | with_reducible refine aw_iaddN hX dX6_addStop_45 ?_ | refine aw_iadd hX dX6_addStop_45 ?_
    refine ap_X6_size hX fl_X6_31 dX6_addStop_46 ?_
    refine aw_finV (hR _ _ dX6_addStop_49) ?_
    rfl
set_option maxHeartbeats 4000000 in
set_option maxRecDepth 100000 in
theorem m_X6_flueAt (d : Nat) (G : GT) (S : St) (i : Nat) (hi : i < 6) (hs : S.1 11 ≤ 6) : rX6_flueAt G (d + 1) [.ref (gad G 7), .int (nI i)] S (some (.int (if i < S.1 11 then S.2.1 45 i else -9))) S := by
  refine runs_I (d := d) (by decide) (Nat.le_of_ble_eq_true rfl) (fun X (hX : XC X G d RX6 cX6_flueAt 2) hR => ?_)
  show AW X G 0 [.ref (gad G 7), .int (nI i)] [] S
  refine aw_iload_1 hX dX6_flueAt_0 ?_
  refine aw_iflt hX (tgt := 21) dX6_flueAt_1 (by decide) (fun c_1 => ?_) (fun c_1 => ?_)
  · exact absurd c_1 (nI_pos (by omega))
  · skip
    refine aw_iload_1 hX dX6_flueAt_4 ?_
    refine aw_aload_0 hX dX6_flueAt_5 ?_
    refine ag_X6_size hX fl_X6_31 dX6_flueAt_6 ?_
    first | with_reducible refine aw_icmpgeN hX (tgt := 21) dX6_flueAt_9 (by decide) (by omega) (by omega) (fun c_9 => ?_) (fun c_9 => ?_) | refine aw_jge hX (tgt := 21) dX6_flueAt_9 (by decide) (fun c_9 => ?_) (fun c_9 => ?_)
    · rw [if_neg (by omega)] at hR
      refine aw_bipush hX (v := (-9)) (by decide) dX6_flueAt_21 ?_
      refine aw_finI (hR _ _ dX6_flueAt_23) ?_ ?_
      · rfl
      · rfl
    · rw [if_pos (by omega)] at hR
      refine aw_aload_0 hX dX6_flueAt_12 ?_
      refine ag_X6_best hX fl_X6_28 dX6_flueAt_13 ?_
      refine aw_iload_1 hX dX6_flueAt_16 ?_
      refine aw_iald hX dX6_flueAt_17 rfl (by decide) (by omega) ?_
      refine aw_goto hX (tgt := 23) dX6_flueAt_18 (by decide) ?_
      refine aw_finI (hR _ _ dX6_flueAt_23) ?_ ?_
      · rfl
      · rfl
def ab (a : Int32) : Int32 := if 0 ≤ a then a else 0 - a
def wyR (x y : Nat → Int32) (i j : Nat) : Int32 := ab (x i - x j) + ab (y i - y j)
set_option maxHeartbeats 4000000 in
set_option maxRecDepth 100000 in
theorem m_X2_wayBetween (d : Nat) (G : GT) (S : St) (i j : Nat) (hi : i < 12) (hj : j < 12) : rX2_wayBetween G (d + 1) [.ref (gad G 3), .int (nI i), .int (nI j)] S (some (.int (wyR (S.2.1 24) (S.2.1 25) i j))) S := by
  refine runs_I (d := d) (by decide) (Nat.le_of_ble_eq_true rfl) (fun X (hX : XC X G d RX2 cX2_wayBetween 3) hR => ?_)
  show AW X G 0 [.ref (gad G 3), .int (nI i), .int (nI j)] [] S
  refine aw_aload_0 hX dX2_wayBetween_0 ?_
  refine ag_X2_x hX fl_X2_27 dX2_wayBetween_1 ?_
  refine aw_iload_1 hX dX2_wayBetween_4 ?_
  refine aw_iald hX dX2_wayBetween_5 rfl (by decide) (by omega) ?_
  refine aw_aload_0 hX dX2_wayBetween_6 ?_
  refine ag_X2_x hX fl_X2_27 dX2_wayBetween_7 ?_
  refine aw_iload_2 hX dX2_wayBetween_10 ?_
  refine aw_iald hX dX2_wayBetween_11 rfl (by decide) (by omega) ?_
  first | with_reducible refine aw_isubN hX (by omega) dX2_wayBetween_12 ?_ | refine aw_isub hX dX2_wayBetween_12 ?_
  refine aw_abs hX ml_X2_52 dX2_wayBetween_13 (Nat.le_of_ble_eq_true rfl) ?_
  refine aw_aload_0 hX dX2_wayBetween_16 ?_
  refine ag_X2_y hX fl_X2_30 dX2_wayBetween_17 ?_
  refine aw_iload_1 hX dX2_wayBetween_20 ?_
  refine aw_iald hX dX2_wayBetween_21 rfl (by decide) (by omega) ?_
  refine aw_aload_0 hX dX2_wayBetween_22 ?_
  refine ag_X2_y hX fl_X2_30 dX2_wayBetween_23 ?_
  refine aw_iload_2 hX dX2_wayBetween_26 ?_
  refine aw_iald hX dX2_wayBetween_27 rfl (by decide) (by omega) ?_
  first | with_reducible refine aw_isubN hX (by omega) dX2_wayBetween_28 ?_ | refine aw_isub hX dX2_wayBetween_28 ?_
  refine aw_abs hX ml_X2_52 dX2_wayBetween_29 (Nat.le_of_ble_eq_true rfl) ?_
  first | with_reducible refine aw_iaddN hX dX2_wayBetween_32 ?_ | refine aw_iadd hX dX2_wayBetween_32 ?_
  refine aw_finI (hR _ _ dX2_wayBetween_33) ?_ ?_
  · rfl
  · rfl
set_option maxHeartbeats 4000000 in
set_option maxRecDepth 100000 in
theorem m_X2_openPull (d : Nat) (G : GT) (S : St) (i k : Nat) (hi : i < 12) (hw : ¬ S.2.1 22 i ≤ 0) (hk : S.2.1 20 i = nI k) (hk3 : k < 3) : rX2_openPull G (d + 1) [.ref (gad G 3), .int (nI i)] S (some (.int (S.2.1 21 i * gpull k / S.2.1 22 i))) S := by
  refine runs_I (d := d) (by decide) (Nat.le_of_ble_eq_true rfl) (fun X (hX : XC X G d RX2 cX2_openPull 3) hR => ?_)
  show AW X G 0 [.ref (gad G 3), .int (nI i), .null] [] S
  refine aw_aload_0 hX dX2_openPull_0 ?_
  refine ag_X2_width hX fl_X2_21 dX2_openPull_1 ?_
  refine aw_iload_1 hX dX2_openPull_4 ?_
  refine aw_iald hX dX2_openPull_5 rfl (by decide) (by omega) ?_
  refine aw_istore_2 hX rfl (by decide) dX2_openPull_6 ?_
  refine aw_iload_2 hX dX2_openPull_7 ?_
  refine aw_ifle hX (tgt := 33) dX2_openPull_8 (by decide) (fun c_8 => ?_) (fun c_8 => ?_)
  · exact absurd c_8 hw
  · skip
    refine aw_aload_0 hX dX2_openPull_11 ?_
    refine ag_X2_height hX fl_X2_18 dX2_openPull_12 ?_
    refine aw_iload_1 hX dX2_openPull_15 ?_
    refine aw_iald hX dX2_openPull_16 rfl (by decide) (by omega) ?_
    refine aw_gets hX fl_X2_49 dX2_openPull_17 ?_
    refine aw_aload_0 hX dX2_openPull_20 ?_
    refine ag_X2_fuel hX fl_X2_15 dX2_openPull_21 ?_
    refine aw_iload_1 hX dX2_openPull_24 ?_
    refine aw_iald hX dX2_openPull_25 rfl (by decide) (by omega) ?_
    rw [hk]
    refine aw_tald hX dX2_openPull_26 hk3 ?_
    first | with_reducible refine aw_imulN hX dX2_openPull_27 ?_ | refine aw_imul hX dX2_openPull_27 ?_
    refine aw_iload_2 hX dX2_openPull_28 ?_
    refine aw_idiv hX (fun h => hw (by rw [h]; decide)) dX2_openPull_29 ?_
    refine aw_goto hX (tgt := 34) dX2_openPull_30 (by decide) ?_
    refine aw_finI (hR _ _ dX2_openPull_34) ?_ ?_
    · rfl
    · rfl
end
section
theorem np1 (n : Nat) : nI (n + 1) - nI 1 = nI n := by rw [pk_sub (by omega)]; rfl
theorem nm1 (n : Nat) : nI n + Int32.ofInt (-1) = nI n - nI 1 := by
  rw [show Int32.ofInt (-1) = - nI 1 from by decide]; exact (Int32.sub_eq_add_neg (nI n) (nI 1)).symm
/-- what is AS KNOWN out of the first n LOOKS: what was found, and its DAY -/
def knL (fl dy td fi : Nat → Int32) (f day : Int32) : Nat → Int32 × Int32
  | 0 => (-9, -1)
  | n + 1 => if fl n = f ∧ td n ≤ day ∧ dy n ≤ day ∧ (knL fl dy td fi f day n).2 ≤ dy n then (fi n, dy n) else knL fl dy td fi f day n
/-- the latest of the first n sweeps of f up to a day -/
def laL (fl dy : Nat → Int32) (f day : Int32) : Nat → Option Nat
  | 0 => none
  | n + 1 => if fl n = f ∧ dy n ≤ day then some n else laL fl dy f day n
def oN (x : Option Nat) : Int32 := match x with
  | none => -9
  | some k => nI k
def erL (hd fe : Nat → Int32) (h : Int32) : Nat → Int32
  | 0 => 0
  | n + 1 => if hd n = h then erL hd fe h n + fe n else erL hd fe h n
def infL (td : Nat → Int32) (day : Int32) : Nat → Option Nat
  | 0 => none
  | n + 1 => if td n ≤ day then some n else infL td day n
def spL (ff sp fr : Nat → Int32) (fuel day : Int32) (lo : Nat) : Nat → Int32
  | 0 => nI 100
  | n + 1 => if ff (lo + n) = fuel ∧ fr (lo + n) ≤ day then sp (lo + n) else spL ff sp fr fuel day lo n
def tn (x : Int32) : Nat := x.toNatClampNeg
def spO (nl : Nat) (td st ff sp fr : Nat → Int32) (fuel day : Int32) : Int32 := match infL td day nl with
  | none => nI 100
  | some k => spL ff sp fr fuel day (tn (st k)) (tn (st (k + 1)) - tn (st k))
def fdL (P : Nat → Bool) : Nat → Nat → Nat
  | 0, d => d
  | n + 1, d => if P d then d else fdL P n (d + 1)
set_option maxHeartbeats 4000000 in
set_option maxRecDepth 100000 in
theorem m_X4_asKnown (d : Nat) (G : GT) (S : St) (f day : Int32) (hs : S.1 8 ≤ 30) : rX4_asKnown G (d + 1) [.ref (gad G 4), .int f, .int day] S (some (.int ((knL (S.2.1 30) (S.2.1 31) (S.2.1 32) (S.2.1 33) f day (S.1 8)).1))) S := by
  refine runs_I (d := d) (by decide) (Nat.le_of_ble_eq_true rfl) (fun X (hX : XC X G d RX4 cX4_asKnown 7) hR => ?_)
  show AW X G 0 [.ref (gad G 4), .int f, .int day, .null, .null, .null, .null] [] S
  have loop : ∀ n i : Nat, i + n = S.1 8 → ∀ (fo la : Int32) (v6 : Value), (fo, la) = knL (S.2.1 30) (S.2.1 31) (S.2.1 32) (S.2.1 33) f day i → AW X G 9 [.ref (gad G 4), .int f, .int day, .int fo, .int la, .int (nI i), v6] [] S := by
    intro n
    induction n with
    | zero =>
      intro i hi fo la v6 hp
      refine aw_iload_5 hX dX4_asKnown_9 ?_
      refine aw_aload_0 hX dX4_asKnown_11 ?_
      refine ag_X4_size hX fl_X4_24 dX4_asKnown_12 ?_
      first | with_reducible refine aw_icmpgeN hX (tgt := 98) dX4_asKnown_15 (by decide) (by omega) (by omega) (fun c_15 => ?_) (fun c_15 => ?_) | refine aw_jge hX (tgt := 98) dX4_asKnown_15 (by decide) (fun c_15 => ?_) (fun c_15 => ?_)
      · skip
        refine aw_iload_3 hX dX4_asKnown_98 ?_
        refine aw_finI (hR _ _ dX4_asKnown_99) ?_ ?_
        · rw [show S.1 8 = i by omega, ← hp]
        · rfl
      · exact absurd c_15 (by omega)
    | succ n ih =>
      intro i hi fo la v6 hp
      refine aw_iload_5 hX dX4_asKnown_9 ?_
      refine aw_aload_0 hX dX4_asKnown_11 ?_
      refine ag_X4_size hX fl_X4_24 dX4_asKnown_12 ?_
      first | with_reducible refine aw_icmpgeN hX (tgt := 98) dX4_asKnown_15 (by decide) (by omega) (by omega) (fun c_15 => ?_) (fun c_15 => ?_) | refine aw_jge hX (tgt := 98) dX4_asKnown_15 (by decide) (fun c_15 => ?_) (fun c_15 => ?_)
      · exact absurd c_15 (by omega)
      · skip
        refine aw_aload_0 hX dX4_asKnown_18 ?_
        refine ag_X4_flue hX fl_X4_11 dX4_asKnown_19 ?_
        refine aw_iload_5 hX dX4_asKnown_22 ?_
        refine aw_iald hX dX4_asKnown_24 rfl (by decide) (by omega) ?_
        refine aw_iload_1 hX dX4_asKnown_25 ?_
        first | with_reducible refine aw_icmpneN hX (tgt := 55) dX4_asKnown_26 (by decide) (by omega) (by omega) (fun c_26 => ?_) (fun c_26 => ?_) | refine aw_icmpne hX (tgt := 55) dX4_asKnown_26 (by decide) (fun c_26 => ?_) (fun c_26 => ?_)
        · skip
          refine aw_iconst hX (v := nI 0) (by decide) dX4_asKnown_55 ?_
          refine aw_istore_6 hX rfl (by decide) dX4_asKnown_56 ?_
          refine aw_iload_6 hX dX4_asKnown_58 ?_
          refine aw_ifeq hX (tgt := 92) dX4_asKnown_60 (by decide) (fun _ => ?_) (fun c => absurd c (by decide))
          first | with_reducible refine aw_iinc_5N hX rfl (by decide) dX4_asKnown_92 ?_ | refine aw_iinc_5 hX rfl (by decide) dX4_asKnown_92 ?_
          refine aw_goto hX (tgt := 9) dX4_asKnown_95 (by decide) ?_
          exact ih (i + 1) (by omega) _ _ _ (by simp only [knL, ← hp]; simp [c_15, c_26])
        · skip
          refine aw_aload_0 hX dX4_asKnown_29 ?_
          refine ag_X4_told hX fl_X4_18 dX4_asKnown_30 ?_
          refine aw_iload_5 hX dX4_asKnown_33 ?_
          refine aw_iald hX dX4_asKnown_35 rfl (by decide) (by omega) ?_
          refine aw_iload_2 hX dX4_asKnown_36 ?_
          first | with_reducible refine aw_icmpgtN hX (tgt := 55) dX4_asKnown_37 (by decide) (by omega) (by omega) (fun c_37 => ?_) (fun c_37 => ?_) | refine aw_jgt hX (tgt := 55) dX4_asKnown_37 (by decide) (fun c_37 => ?_) (fun c_37 => ?_)
          · skip
            refine aw_iconst hX (v := nI 0) (by decide) dX4_asKnown_55 ?_
            refine aw_istore_6 hX rfl (by decide) dX4_asKnown_56 ?_
            refine aw_iload_6 hX dX4_asKnown_58 ?_
            refine aw_ifeq hX (tgt := 92) dX4_asKnown_60 (by decide) (fun _ => ?_) (fun c => absurd c (by decide))
            first | with_reducible refine aw_iinc_5N hX rfl (by decide) dX4_asKnown_92 ?_ | refine aw_iinc_5 hX rfl (by decide) dX4_asKnown_92 ?_
            refine aw_goto hX (tgt := 9) dX4_asKnown_95 (by decide) ?_
            exact ih (i + 1) (by omega) _ _ _ (by simp only [knL, ← hp]; simp [c_15, c_26, c_37])
          · skip
            refine aw_aload_0 hX dX4_asKnown_40 ?_
            refine ag_X4_day hX fl_X4_15 dX4_asKnown_41 ?_
            refine aw_iload_5 hX dX4_asKnown_44 ?_
            refine aw_iald hX dX4_asKnown_46 rfl (by decide) (by omega) ?_
            refine aw_iload_2 hX dX4_asKnown_47 ?_
            first | with_reducible refine aw_icmpgtN hX (tgt := 55) dX4_asKnown_48 (by decide) (by omega) (by omega) (fun c_48 => ?_) (fun c_48 => ?_) | refine aw_jgt hX (tgt := 55) dX4_asKnown_48 (by decide) (fun c_48 => ?_) (fun c_48 => ?_)
            · skip
              refine aw_iconst hX (v := nI 0) (by decide) dX4_asKnown_55 ?_
              refine aw_istore_6 hX rfl (by decide) dX4_asKnown_56 ?_
              refine aw_iload_6 hX dX4_asKnown_58 ?_
              refine aw_ifeq hX (tgt := 92) dX4_asKnown_60 (by decide) (fun _ => ?_) (fun c => absurd c (by decide))
              first | with_reducible refine aw_iinc_5N hX rfl (by decide) dX4_asKnown_92 ?_ | refine aw_iinc_5 hX rfl (by decide) dX4_asKnown_92 ?_
              refine aw_goto hX (tgt := 9) dX4_asKnown_95 (by decide) ?_
              exact ih (i + 1) (by omega) _ _ _ (by simp only [knL, ← hp]; simp [c_15, c_26, c_37, c_48])
            · skip
              refine aw_iconst hX (v := nI 1) (by decide) dX4_asKnown_51 ?_
              refine aw_goto hX (tgt := 56) dX4_asKnown_52 (by decide) ?_
              refine aw_istore_6 hX rfl (by decide) dX4_asKnown_56 ?_
              refine aw_iload_6 hX dX4_asKnown_58 ?_
              refine aw_ifeq hX (tgt := 92) dX4_asKnown_60 (by decide) (fun c => absurd c (by decide)) (fun _ => ?_)
              refine aw_aload_0 hX dX4_asKnown_63 ?_
              refine ag_X4_day hX fl_X4_15 dX4_asKnown_64 ?_
              refine aw_iload_5 hX dX4_asKnown_67 ?_
              refine aw_iald hX dX4_asKnown_69 rfl (by decide) (by omega) ?_
              refine aw_iload_4 hX dX4_asKnown_70 ?_
              first | with_reducible refine aw_icmpltN hX (tgt := 92) dX4_asKnown_72 (by decide) (by omega) (by omega) (fun c_72 => ?_) (fun c_72 => ?_) | refine aw_jlt hX (tgt := 92) dX4_asKnown_72 (by decide) (fun c_72 => ?_) (fun c_72 => ?_)
              · skip
                first | with_reducible refine aw_iinc_5N hX rfl (by decide) dX4_asKnown_92 ?_ | refine aw_iinc_5 hX rfl (by decide) dX4_asKnown_92 ?_
                refine aw_goto hX (tgt := 9) dX4_asKnown_95 (by decide) ?_
                exact ih (i + 1) (by omega) _ _ _ (by simp only [knL, ← hp]; simp [c_15, c_26, c_37, c_48, c_72])
              · skip
                refine aw_aload_0 hX dX4_asKnown_75 ?_
                refine ag_X4_finding hX fl_X4_21 dX4_asKnown_76 ?_
                refine aw_iload_5 hX dX4_asKnown_79 ?_
                refine aw_iald hX dX4_asKnown_81 rfl (by decide) (by omega) ?_
                refine aw_istore_3 hX rfl (by decide) dX4_asKnown_82 ?_
                refine aw_aload_0 hX dX4_asKnown_83 ?_
                refine ag_X4_day hX fl_X4_15 dX4_asKnown_84 ?_
                refine aw_iload_5 hX dX4_asKnown_87 ?_
                refine aw_iald hX dX4_asKnown_89 rfl (by decide) (by omega) ?_
                refine aw_istore_4 hX rfl (by decide) dX4_asKnown_90 ?_
                first | with_reducible refine aw_iinc_5N hX rfl (by decide) dX4_asKnown_92 ?_ | refine aw_iinc_5 hX rfl (by decide) dX4_asKnown_92 ?_
                refine aw_goto hX (tgt := 9) dX4_asKnown_95 (by decide) ?_
                exact ih (i + 1) (by omega) _ _ _ (by simp only [knL, ← hp]; simp [c_15, c_26, c_37, c_48, c_72])
  refine aw_bipush hX (v := (-9)) (by decide) dX4_asKnown_0 ?_
  refine aw_istore_3 hX rfl (by decide) dX4_asKnown_2 ?_
  refine aw_iconst hX (v := (-1)) (by decide) dX4_asKnown_3 ?_
  refine aw_istore_4 hX rfl (by decide) dX4_asKnown_4 ?_
  refine aw_iconst hX (v := nI 0) (by decide) dX4_asKnown_6 ?_
  refine aw_istore_5 hX rfl (by decide) dX4_asKnown_7 ?_
  exact loop (S.1 8) 0 (by omega) _ _ _ rfl
set_option maxHeartbeats 4000000 in
set_option maxRecDepth 100000 in
theorem m_X3_inForce (d : Nat) (G : GT) (S : St) (day : Int32) (hs : S.1 6 ≤ 6) : rX3_inForce G (d + 1) [.ref (gad G 2), .int day] S (some (.int (oN (infL (S.2.1 14) day (S.1 6))))) S := by
  refine runs_I (d := d) (by decide) (Nat.le_of_ble_eq_true rfl) (fun X (hX : XC X G d RX3 cX3_inForce 3) hR => ?_)
  show AW X G 0 [.ref (gad G 2), .int day, .null] [] S
  have loop : ∀ n : Nat, n ≤ S.1 6 → infL (S.2.1 14) day n = infL (S.2.1 14) day (S.1 6) → AW X G 7 [.ref (gad G 2), .int day, .int (nI n - nI 1)] [] S := by
    intro n
    induction n with
    | zero =>
      intro hn hp
      refine aw_iload_2 hX dX3_inForce_7 ?_
      refine aw_iflt hX (tgt := 29) dX3_inForce_8 (by decide) (fun c_8 => ?_) (fun c_8 => ?_)
      · skip
        refine aw_bipush hX (v := (-9)) (by decide) dX3_inForce_29 ?_
        refine aw_finI (hR _ _ dX3_inForce_31) ?_ ?_
        · rw [← hp]; rfl
        · rfl
      · exact absurd (by decide) c_8
    | succ n ih =>
      intro hn hp
      rw [np1]
      refine aw_iload_2 hX dX3_inForce_7 ?_
      refine aw_iflt hX (tgt := 29) dX3_inForce_8 (by decide) (fun c_8 => ?_) (fun c_8 => ?_)
      · exact absurd c_8 (nI_pos (by omega))
      · skip
        refine aw_aload_0 hX dX3_inForce_11 ?_
        refine ag_X3_told hX fl_X3_11 dX3_inForce_12 ?_
        refine aw_iload_2 hX dX3_inForce_15 ?_
        refine aw_iald hX dX3_inForce_16 rfl (by decide) (by omega) ?_
        refine aw_iload_1 hX dX3_inForce_17 ?_
        first | with_reducible refine aw_icmpgtN hX (tgt := 23) dX3_inForce_18 (by decide) (by omega) (by omega) (fun c_18 => ?_) (fun c_18 => ?_) | refine aw_jgt hX (tgt := 23) dX3_inForce_18 (by decide) (fun c_18 => ?_) (fun c_18 => ?_)
        · skip
          refine aw_iinc_2 hX rfl (by decide) dX3_inForce_23 ?_
          refine aw_goto hX (tgt := 7) dX3_inForce_26 (by decide) ?_
          rw [nm1]; exact ih (by omega) (by rw [← hp]; simp [infL, c_8, c_18])
        · skip
          refine aw_iload_2 hX dX3_inForce_21 ?_
          refine aw_finI (hR _ _ dX3_inForce_22) ?_ ?_
          · rw [← hp]; simp [infL, oN, c_8, c_18]
          · rfl
  refine aw_aload_0 hX dX3_inForce_0 ?_
  refine ag_X3_size hX fl_X3_29 dX3_inForce_1 ?_
  refine aw_iconst hX (v := nI 1) (by decide) dX3_inForce_4 ?_
  refine aw_isub hX dX3_inForce_5 ?_
  refine aw_istore_2 hX rfl (by decide) dX3_inForce_6 ?_
  exact loop (S.1 6) (Nat.le_refl _) rfl
set_option maxHeartbeats 4000000 in
set_option maxRecDepth 100000 in
theorem m_X5_latest (d : Nat) (G : GT) (S : St) (f day : Int32) (hs : S.1 10 ≤ 100) : rX5_latest G (d + 1) [.ref (gad G 6), .int f, .int day] S (some (.int (oN (laL (S.2.1 36) (S.2.1 37) f day (S.1 10))))) S := by
  refine runs_I (d := d) (by decide) (Nat.le_of_ble_eq_true rfl) (fun X (hX : XC X G d RX5 cX5_latest 4) hR => ?_)
  show AW X G 0 [.ref (gad G 6), .int f, .int day, .null] [] S
  have loop : ∀ n : Nat, n ≤ S.1 10 → laL (S.2.1 36) (S.2.1 37) f day n = laL (S.2.1 36) (S.2.1 37) f day (S.1 10) → AW X G 7 [.ref (gad G 6), .int f, .int day, .int (nI n - nI 1)] [] S := by
    intro n
    induction n with
    | zero =>
      intro hn hp
      refine aw_iload_3 hX dX5_latest_7 ?_
      refine aw_iflt hX (tgt := 39) dX5_latest_8 (by decide) (fun c_8 => ?_) (fun c_8 => ?_)
      · skip
        refine aw_bipush hX (v := (-9)) (by decide) dX5_latest_39 ?_
        refine aw_finI (hR _ _ dX5_latest_41) ?_ ?_
        · rw [← hp]; rfl
        · rfl
      · exact absurd (by decide) c_8
    | succ n ih =>
      intro hn hp
      rw [np1]
      refine aw_iload_3 hX dX5_latest_7 ?_
      refine aw_iflt hX (tgt := 39) dX5_latest_8 (by decide) (fun c_8 => ?_) (fun c_8 => ?_)
      · exact absurd c_8 (nI_pos (by omega))
      · skip
        refine aw_aload_0 hX dX5_latest_11 ?_
        refine ag_X5_flue hX fl_X5_11 dX5_latest_12 ?_
        refine aw_iload_3 hX dX5_latest_15 ?_
        refine aw_iald hX dX5_latest_16 rfl (by decide) (by omega) ?_
        refine aw_iload_1 hX dX5_latest_17 ?_
        first | with_reducible refine aw_icmpneN hX (tgt := 33) dX5_latest_18 (by decide) (by omega) (by omega) (fun c_18 => ?_) (fun c_18 => ?_) | refine aw_icmpne hX (tgt := 33) dX5_latest_18 (by decide) (fun c_18 => ?_) (fun c_18 => ?_)
        · skip
          refine aw_iinc_3 hX rfl (by decide) dX5_latest_33 ?_
          refine aw_goto hX (tgt := 7) dX5_latest_36 (by decide) ?_
          rw [nm1]; exact ih (by omega) (by rw [← hp]; simp [laL, c_8, c_18])
        · skip
          refine aw_aload_0 hX dX5_latest_21 ?_
          refine ag_X5_day hX fl_X5_15 dX5_latest_22 ?_
          refine aw_iload_3 hX dX5_latest_25 ?_
          refine aw_iald hX dX5_latest_26 rfl (by decide) (by omega) ?_
          refine aw_iload_2 hX dX5_latest_27 ?_
          first | with_reducible refine aw_icmpgtN hX (tgt := 33) dX5_latest_28 (by decide) (by omega) (by omega) (fun c_28 => ?_) (fun c_28 => ?_) | refine aw_jgt hX (tgt := 33) dX5_latest_28 (by decide) (fun c_28 => ?_) (fun c_28 => ?_)
          · skip
            refine aw_iinc_3 hX rfl (by decide) dX5_latest_33 ?_
            refine aw_goto hX (tgt := 7) dX5_latest_36 (by decide) ?_
            rw [nm1]; exact ih (by omega) (by rw [← hp]; simp [laL, c_8, c_18, c_28])
          · skip
            refine aw_iload_3 hX dX5_latest_31 ?_
            refine aw_finI (hR _ _ dX5_latest_32) ?_ ?_
            · rw [← hp]; simp [laL, oN, c_8, c_18, c_28]
            · rfl
  refine aw_aload_0 hX dX5_latest_0 ?_
  refine ag_X5_size hX fl_X5_24 dX5_latest_1 ?_
  refine aw_iconst hX (v := nI 1) (by decide) dX5_latest_4 ?_
  refine aw_isub hX dX5_latest_5 ?_
  refine aw_istore_3 hX rfl (by decide) dX5_latest_6 ?_
  exact loop (S.1 10) (Nat.le_refl _) rfl
set_option maxHeartbeats 4000000 in
set_option maxRecDepth 100000 in
theorem m_X5_earnedBy (d : Nat) (G : GT) (S : St) (h : Int32) (hs : S.1 10 ≤ 100) : rX5_earnedBy G (d + 1) [.ref (gad G 6), .int h] S (some (.int (erL (S.2.1 38) (S.2.1 39) h (S.1 10)))) S := by
  refine runs_I (d := d) (by decide) (Nat.le_of_ble_eq_true rfl) (fun X (hX : XC X G d RX5 cX5_earnedBy 4) hR => ?_)
  show AW X G 0 [.ref (gad G 6), .int h, .null, .null] [] S
  have loop : ∀ n i : Nat, i + n = S.1 10 → ∀ (v : Int32), v = erL (S.2.1 38) (S.2.1 39) h i → AW X G 4 [.ref (gad G 6), .int h, .int v, .int (nI i)] [] S := by
    intro n
    induction n with
    | zero =>
      intro i hi v hp
      refine aw_iload_3 hX dX5_earnedBy_4 ?_
      refine aw_aload_0 hX dX5_earnedBy_5 ?_
      refine ag_X5_size hX fl_X5_24 dX5_earnedBy_6 ?_
      first | with_reducible refine aw_icmpgeN hX (tgt := 37) dX5_earnedBy_9 (by decide) (by omega) (by omega) (fun c_9 => ?_) (fun c_9 => ?_) | refine aw_jge hX (tgt := 37) dX5_earnedBy_9 (by decide) (fun c_9 => ?_) (fun c_9 => ?_)
      · skip
        refine aw_iload_2 hX dX5_earnedBy_37 ?_
        refine aw_finI (hR _ _ dX5_earnedBy_38) ?_ ?_
        · rw [show S.1 10 = i by omega, ← hp]
        · rfl
      · exact absurd c_9 (by omega)
    | succ n ih =>
      intro i hi v hp
      refine aw_iload_3 hX dX5_earnedBy_4 ?_
      refine aw_aload_0 hX dX5_earnedBy_5 ?_
      refine ag_X5_size hX fl_X5_24 dX5_earnedBy_6 ?_
      first | with_reducible refine aw_icmpgeN hX (tgt := 37) dX5_earnedBy_9 (by decide) (by omega) (by omega) (fun c_9 => ?_) (fun c_9 => ?_) | refine aw_jge hX (tgt := 37) dX5_earnedBy_9 (by decide) (fun c_9 => ?_) (fun c_9 => ?_)
      · exact absurd c_9 (by omega)
      · skip
        refine aw_aload_0 hX dX5_earnedBy_12 ?_
        refine ag_X5_hand hX fl_X5_18 dX5_earnedBy_13 ?_
        refine aw_iload_3 hX dX5_earnedBy_16 ?_
        refine aw_iald hX dX5_earnedBy_17 rfl (by decide) (by omega) ?_
        refine aw_iload_1 hX dX5_earnedBy_18 ?_
        first | with_reducible refine aw_icmpneN hX (tgt := 31) dX5_earnedBy_19 (by decide) (by omega) (by omega) (fun c_19 => ?_) (fun c_19 => ?_) | refine aw_icmpne hX (tgt := 31) dX5_earnedBy_19 (by decide) (fun c_19 => ?_) (fun c_19 => ?_)
        · skip
          first | with_reducible refine aw_iinc_3N hX rfl (by decide) dX5_earnedBy_31 ?_ | refine aw_iinc_3 hX rfl (by decide) dX5_earnedBy_31 ?_
          refine aw_goto hX (tgt := 4) dX5_earnedBy_34 (by decide) ?_
          exact ih (i + 1) (by omega) _ (by simp only [erL, ← hp]; simp [c_9, c_19]; try decide)
        · skip
          refine aw_iload_2 hX dX5_earnedBy_22 ?_
          refine aw_aload_0 hX dX5_earnedBy_23 ?_
          refine ag_X5_fee hX fl_X5_21 dX5_earnedBy_24 ?_
          refine aw_iload_3 hX dX5_earnedBy_27 ?_
          refine aw_iald hX dX5_earnedBy_28 rfl (by decide) (by omega) ?_
          first | with_reducible refine aw_iaddN hX dX5_earnedBy_29 ?_ | refine aw_iadd hX dX5_earnedBy_29 ?_
          refine aw_istore_2 hX rfl (by decide) dX5_earnedBy_30 ?_
          first | with_reducible refine aw_iinc_3N hX rfl (by decide) dX5_earnedBy_31 ?_ | refine aw_iinc_3 hX rfl (by decide) dX5_earnedBy_31 ?_
          refine aw_goto hX (tgt := 4) dX5_earnedBy_34 (by decide) ?_
          exact ih (i + 1) (by omega) _ (by simp only [erL, ← hp]; simp [c_9, c_19]; try decide)
  refine aw_iconst hX (v := nI 0) (by decide) dX5_earnedBy_0 ?_
  refine aw_istore_2 hX rfl (by decide) dX5_earnedBy_1 ?_
  refine aw_iconst hX (v := nI 0) (by decide) dX5_earnedBy_2 ?_
  refine aw_istore_3 hX rfl (by decide) dX5_earnedBy_3 ?_
  exact loop (S.1 10) 0 (by omega) _ rfl
set_option maxHeartbeats 4000000 in
set_option maxRecDepth 100000 in
theorem m_X5_doneBy (d : Nat) (G : GT) (S : St) (h : Int32) (hs : S.1 10 ≤ 100) : rX5_doneBy G (d + 1) [.ref (gad G 6), .int h] S (some (.int (erL (S.2.1 38) (fun _ => nI 1) h (S.1 10)))) S := by
  refine runs_I (d := d) (by decide) (Nat.le_of_ble_eq_true rfl) (fun X (hX : XC X G d RX5 cX5_doneBy 4) hR => ?_)
  show AW X G 0 [.ref (gad G 6), .int h, .null, .null] [] S
  have loop : ∀ n i : Nat, i + n = S.1 10 → ∀ (v : Int32), v = erL (S.2.1 38) (fun _ => nI 1) h i → AW X G 4 [.ref (gad G 6), .int h, .int v, .int (nI i)] [] S := by
    intro n
    induction n with
    | zero =>
      intro i hi v hp
      refine aw_iload_3 hX dX5_doneBy_4 ?_
      refine aw_aload_0 hX dX5_doneBy_5 ?_
      refine ag_X5_size hX fl_X5_24 dX5_doneBy_6 ?_
      first | with_reducible refine aw_icmpgeN hX (tgt := 31) dX5_doneBy_9 (by decide) (by omega) (by omega) (fun c_9 => ?_) (fun c_9 => ?_) | refine aw_jge hX (tgt := 31) dX5_doneBy_9 (by decide) (fun c_9 => ?_) (fun c_9 => ?_)
      · skip
        refine aw_iload_2 hX dX5_doneBy_31 ?_
        refine aw_finI (hR _ _ dX5_doneBy_32) ?_ ?_
        · rw [show S.1 10 = i by omega, ← hp]
        · rfl
      · exact absurd c_9 (by omega)
    | succ n ih =>
      intro i hi v hp
      refine aw_iload_3 hX dX5_doneBy_4 ?_
      refine aw_aload_0 hX dX5_doneBy_5 ?_
      refine ag_X5_size hX fl_X5_24 dX5_doneBy_6 ?_
      first | with_reducible refine aw_icmpgeN hX (tgt := 31) dX5_doneBy_9 (by decide) (by omega) (by omega) (fun c_9 => ?_) (fun c_9 => ?_) | refine aw_jge hX (tgt := 31) dX5_doneBy_9 (by decide) (fun c_9 => ?_) (fun c_9 => ?_)
      · exact absurd c_9 (by omega)
      · skip
        refine aw_aload_0 hX dX5_doneBy_12 ?_
        refine ag_X5_hand hX fl_X5_18 dX5_doneBy_13 ?_
        refine aw_iload_3 hX dX5_doneBy_16 ?_
        refine aw_iald hX dX5_doneBy_17 rfl (by decide) (by omega) ?_
        refine aw_iload_1 hX dX5_doneBy_18 ?_
        first | with_reducible refine aw_icmpneN hX (tgt := 25) dX5_doneBy_19 (by decide) (by omega) (by omega) (fun c_19 => ?_) (fun c_19 => ?_) | refine aw_icmpne hX (tgt := 25) dX5_doneBy_19 (by decide) (fun c_19 => ?_) (fun c_19 => ?_)
        · skip
          first | with_reducible refine aw_iinc_3N hX rfl (by decide) dX5_doneBy_25 ?_ | refine aw_iinc_3 hX rfl (by decide) dX5_doneBy_25 ?_
          refine aw_goto hX (tgt := 4) dX5_doneBy_28 (by decide) ?_
          exact ih (i + 1) (by omega) _ (by simp only [erL, ← hp]; simp [c_9, c_19]; try decide)
        · skip
          first | with_reducible refine aw_iinc_2N hX rfl (by decide) dX5_doneBy_22 ?_ | refine aw_iinc_2 hX rfl (by decide) dX5_doneBy_22 ?_
          first | with_reducible refine aw_iinc_3N hX rfl (by decide) dX5_doneBy_25 ?_ | refine aw_iinc_3 hX rfl (by decide) dX5_doneBy_25 ?_
          refine aw_goto hX (tgt := 4) dX5_doneBy_28 (by decide) ?_
          exact ih (i + 1) (by omega) _ (by simp only [erL, ← hp]; simp [c_9, c_19]; try decide)
  refine aw_iconst hX (v := nI 0) (by decide) dX5_doneBy_0 ?_
  refine aw_istore_2 hX rfl (by decide) dX5_doneBy_1 ?_
  refine aw_iconst hX (v := nI 0) (by decide) dX5_doneBy_2 ?_
  refine aw_istore_3 hX rfl (by decide) dX5_doneBy_3 ?_
  exact loop (S.1 10) 0 (by omega) _ rfl
end
section
def StOK (nl : Nat) (st : Nat → Int32) : Prop := (∀ k, k ≤ nl → st k = nI (tn (st k)) ∧ tn (st k) ≤ 30 * k) ∧ ∀ k, k < nl → tn (st k) ≤ tn (st (k + 1))
theorem infL_lt {td : Nat → Int32} {day : Int32} : ∀ {n k : Nat}, infL td day n = some k → k < n
  | 0, k, h => by cases h
  | n + 1, k, h => by
    unfold infL at h
    split at h
    · cases h; exact Nat.lt_succ_self _
    · exact Nat.lt_succ_of_lt (infL_lt h)
theorem laL_lt {fl dy : Nat → Int32} {f day : Int32} : ∀ {n k : Nat}, laL fl dy f day n = some k → k < n
  | 0, k, h => by cases h
  | n + 1, k, h => by
    unfold laL at h
    split at h
    · cases h; exact Nat.lt_succ_self _
    · exact Nat.lt_succ_of_lt (laL_lt h)
theorem ne9 {k : Nat} (h : k < 2 ^ 31) : ¬ nI k = -9 := by
  intro e
  have h1 := congrArg Int32.toInt e
  rw [nI_toInt h] at h1
  have : (-9 : Int32).toInt = -9 := by decide
  omega
theorem toInt_ge (x : Int32) : -2147483648 ≤ x.toInt ∧ x.toInt < 2147483648 := ⟨Int32.le_toInt x, Int32.toInt_lt x⟩
theorem sm1 {n : Nat} (h : n < 2 ^ 30) : ¬ nI n ≤ nI n - nI 1 := by
  rw [Int32.le_iff_toInt_le, pk_sub_toInt h (by decide), nI_toInt (by omega)]
  omega
theorem spO_none {nl : Nat} {td st ff sp fr : Nat → Int32} {fuel day : Int32} (h : infL td day nl = none) : spO nl td st ff sp fr fuel day = nI 100 := by simp [spO, h]
theorem spO_some {nl k : Nat} {td st ff sp fr : Nat → Int32} {fuel day : Int32} (h : infL td day nl = some k) : spO nl td st ff sp fr fuel day = spL ff sp fr fuel day (tn (st k)) (tn (st (k + 1)) - tn (st k)) := by simp [spO, h]
set_option maxHeartbeats 4000000 in
set_option maxRecDepth 100000 in
theorem m_X3_spanOn (d : Nat) (G : GT) (S : St) (fuel day : Int32) (hs : S.1 6 ≤ 6) (hst : StOK (S.1 6) (S.2.1 15)) : rX3_spanOn G (d + 2) [.ref (gad G 2), .int fuel, .int day] S (some (.int (spO (S.1 6) (S.2.1 14) (S.2.1 15) (S.2.1 16) (S.2.1 17) (S.2.1 18) fuel day))) S := by
  refine runs_I (d := (d + 1)) (by decide) (Nat.le_of_ble_eq_true rfl) (fun X (hX : XC X G (d + 1) RX3 cX3_spanOn 5) hR => ?_)
  show AW X G 0 [.ref (gad G 2), .int fuel, .int day, .null, .null] [] S
  refine aw_aload_0 hX dX3_spanOn_0 ?_
  refine aw_iload_2 hX dX3_spanOn_1 ?_
  refine cv_X3_inForce hX ml_X3_39 dX3_spanOn_2 (m_X3_inForce d G S _ hs) (Nat.le_of_ble_eq_true rfl) ?_
  cases hinf : infL (S.2.1 14) day (S.1 6) with
  | none =>
    simp only [oN]
    refine aw_istore_3 hX rfl (by decide) dX3_spanOn_5 ?_
    refine aw_iload_3 hX dX3_spanOn_6 ?_
    refine aw_bipush hX (v := (-9)) (by decide) dX3_spanOn_7 ?_
    first | with_reducible refine aw_icmpneN hX (tgt := 15) dX3_spanOn_9 (by decide) (by omega) (by omega) (fun c_9 => ?_) (fun c_9 => ?_) | refine aw_icmpne hX (tgt := 15) dX3_spanOn_9 (by decide) (fun c_9 => ?_) (fun c_9 => ?_)
    · exact absurd rfl c_9
    · skip
      refine aw_bipush hX (v := nI 100) (by decide) dX3_spanOn_12 ?_
      refine aw_finI (hR _ _ dX3_spanOn_14) ?_ ?_
      · rw [spO_none hinf]
      · rfl
  | some k =>
    have hk := infL_lt hinf
    have hlo := hst.1 k (by omega)
    have hhi := hst.1 (k + 1) (by omega)
    have hlh := hst.2 k hk
    simp only [oN]
    have loop : ∀ n : Nat, tn (S.2.1 15 k) + n ≤ tn (S.2.1 15 (k + 1)) → spL (S.2.1 16) (S.2.1 17) (S.2.1 18) fuel day (tn (S.2.1 15 k)) n = spL (S.2.1 16) (S.2.1 17) (S.2.1 18) fuel day (tn (S.2.1 15 k)) (tn (S.2.1 15 (k + 1)) - tn (S.2.1 15 k)) → AW X G 27 [.ref (gad G 2), .int fuel, .int day, .int (nI k), .int (nI (tn (S.2.1 15 k) + n) - nI 1)] [] S := by
      intro n
      induction n with
      | zero =>
        intro hn hp
        refine aw_iload_4 hX dX3_spanOn_27 ?_
        refine aw_aload_0 hX dX3_spanOn_29 ?_
        refine ag_X3_start hX fl_X3_15 dX3_spanOn_30 ?_
        refine aw_iload_3 hX dX3_spanOn_33 ?_
        refine aw_iald hX dX3_spanOn_34 rfl (by decide) (by omega) ?_
        refine aw_ti hlo.1 ?_
        refine aw_jlt hX (tgt := 74) dX3_spanOn_35 (by decide) (fun c_35 => ?_) (fun c_35 => ?_)
        · skip
          refine aw_bipush hX (v := nI 100) (by decide) dX3_spanOn_74 ?_
          refine aw_finI (hR _ _ dX3_spanOn_76) ?_ ?_
          · rw [spO_some hinf, ← hp]; rfl
          · rfl
        · exact absurd c_35 (sm1 (by omega))
      | succ n ih =>
        intro hn hp
        rw [show tn (S.2.1 15 k) + (n + 1) = (tn (S.2.1 15 k) + n) + 1 from rfl, np1]
        refine aw_iload_4 hX dX3_spanOn_27 ?_
        refine aw_aload_0 hX dX3_spanOn_29 ?_
        refine ag_X3_start hX fl_X3_15 dX3_spanOn_30 ?_
        refine aw_iload_3 hX dX3_spanOn_33 ?_
        refine aw_iald hX dX3_spanOn_34 rfl (by decide) (by omega) ?_
        refine aw_ti hlo.1 ?_
        first | with_reducible refine aw_icmpltN hX (tgt := 74) dX3_spanOn_35 (by decide) (by omega) (by omega) (fun c_35 => ?_) (fun c_35 => ?_) | refine aw_jlt hX (tgt := 74) dX3_spanOn_35 (by decide) (fun c_35 => ?_) (fun c_35 => ?_)
        · exact absurd c_35 (by omega)
        · skip
          refine aw_aload_0 hX dX3_spanOn_38 ?_
          refine ag_X3_itemFuel hX fl_X3_20 dX3_spanOn_39 ?_
          refine aw_iload_4 hX dX3_spanOn_42 ?_
          refine aw_iald hX dX3_spanOn_44 rfl (by decide) (by omega) ?_
          refine aw_iload_1 hX dX3_spanOn_45 ?_
          first | with_reducible refine aw_icmpneN hX (tgt := 68) dX3_spanOn_46 (by decide) (by omega) (by omega) (fun c_46 => ?_) (fun c_46 => ?_) | refine aw_icmpne hX (tgt := 68) dX3_spanOn_46 (by decide) (fun c_46 => ?_) (fun c_46 => ?_)
          · skip
            refine aw_iinc_4 hX rfl (by decide) dX3_spanOn_68 ?_
            refine aw_goto hX (tgt := 27) dX3_spanOn_71 (by decide) ?_
            rw [nm1]; exact ih (by omega) (by rw [← hp]; simp [spL, c_35, c_46])
          · skip
            refine aw_aload_0 hX dX3_spanOn_49 ?_
            refine ag_X3_itemFrom hX fl_X3_26 dX3_spanOn_50 ?_
            refine aw_iload_4 hX dX3_spanOn_53 ?_
            refine aw_iald hX dX3_spanOn_55 rfl (by decide) (by omega) ?_
            refine aw_iload_2 hX dX3_spanOn_56 ?_
            first | with_reducible refine aw_icmpgtN hX (tgt := 68) dX3_spanOn_57 (by decide) (by omega) (by omega) (fun c_57 => ?_) (fun c_57 => ?_) | refine aw_jgt hX (tgt := 68) dX3_spanOn_57 (by decide) (fun c_57 => ?_) (fun c_57 => ?_)
            · skip
              refine aw_iinc_4 hX rfl (by decide) dX3_spanOn_68 ?_
              refine aw_goto hX (tgt := 27) dX3_spanOn_71 (by decide) ?_
              rw [nm1]; exact ih (by omega) (by rw [← hp]; simp [spL, c_35, c_46, c_57])
            · skip
              refine aw_aload_0 hX dX3_spanOn_60 ?_
              refine ag_X3_itemSpan hX fl_X3_23 dX3_spanOn_61 ?_
              refine aw_iload_4 hX dX3_spanOn_64 ?_
              refine aw_iald hX dX3_spanOn_66 rfl (by decide) (by omega) ?_
              refine aw_finI (hR _ _ dX3_spanOn_67) ?_ ?_
              · rw [spO_some hinf, ← hp]; simp [spL, c_35, c_46, c_57]
              · rfl
    refine aw_istore_3 hX rfl (by decide) dX3_spanOn_5 ?_
    refine aw_iload_3 hX dX3_spanOn_6 ?_
    refine aw_bipush hX (v := (-9)) (by decide) dX3_spanOn_7 ?_
    first | with_reducible refine aw_icmpneN hX (tgt := 15) dX3_spanOn_9 (by decide) (by omega) (by omega) (fun c_9 => ?_) (fun c_9 => ?_) | refine aw_icmpne hX (tgt := 15) dX3_spanOn_9 (by decide) (fun c_9 => ?_) (fun c_9 => ?_)
    · skip
      refine aw_aload_0 hX dX3_spanOn_15 ?_
      refine ag_X3_start hX fl_X3_15 dX3_spanOn_16 ?_
      refine aw_iload_3 hX dX3_spanOn_19 ?_
      refine aw_iconst hX (v := nI 1) (by decide) dX3_spanOn_20 ?_
      first | with_reducible refine aw_iaddN hX dX3_spanOn_21 ?_ | refine aw_iadd hX dX3_spanOn_21 ?_
      refine aw_iald hX dX3_spanOn_22 rfl (by decide) (by omega) ?_
      refine aw_ti hhi.1 ?_
      refine aw_iconst hX (v := nI 1) (by decide) dX3_spanOn_23 ?_
      refine aw_isub hX dX3_spanOn_24 ?_
      refine aw_istore_4 hX rfl (by decide) dX3_spanOn_25 ?_
      have := loop (tn (S.2.1 15 (k + 1)) - tn (S.2.1 15 k)) (by omega) rfl
      rw [show tn (S.2.1 15 k) + (tn (S.2.1 15 (k + 1)) - tn (S.2.1 15 k)) = tn (S.2.1 15 (k + 1)) by omega] at this
      exact this
    · exact absurd c_9 (ne9 (by omega))
set_option maxHeartbeats 4000000 in
set_option maxRecDepth 100000 in
theorem m_X3_firstDue (d : Nat) (G : GT) (S : St) (fuel : Int32) (w : Nat) (hw : w ≤ 500) (hs : S.1 6 ≤ 6) (hst : StOK (S.1 6) (S.2.1 15)) : rX3_firstDue G (d + 3) [.ref (gad G 2), .int fuel, .int (nI w)] S (some (.int (nI (w + fdL (fun j => decide (spO (S.1 6) (S.2.1 14) (S.2.1 15) (S.2.1 16) (S.2.1 17) (S.2.1 18) fuel (nI (w + j)) ≤ nI j)) 199 1)))) S := by
  refine runs_I (d := (d + 2)) (by decide) (Nat.le_of_ble_eq_true rfl) (fun X (hX : XC X G (d + 2) RX3 cX3_firstDue 4) hR => ?_)
  show AW X G 0 [.ref (gad G 2), .int fuel, .int (nI w), .null] [] S
  have loop : ∀ n i : Nat, i + n = 200 → fdL (fun j => decide (spO (S.1 6) (S.2.1 14) (S.2.1 15) (S.2.1 16) (S.2.1 17) (S.2.1 18) fuel (nI (w + j)) ≤ nI j)) n i = fdL (fun j => decide (spO (S.1 6) (S.2.1 14) (S.2.1 15) (S.2.1 16) (S.2.1 17) (S.2.1 18) fuel (nI (w + j)) ≤ nI j)) 199 1 → AW X G 2 [.ref (gad G 2), .int fuel, .int (nI w), .int (nI i)] [] S := by
    intro n
    induction n with
    | zero =>
      intro i hi hp
      refine aw_iload_3 hX dX3_firstDue_2 ?_
      refine aw_sipush hX (v := nI 200) (by decide) dX3_firstDue_3 ?_
      first | with_reducible refine aw_icmpgeN hX (tgt := 31) dX3_firstDue_6 (by decide) (by omega) (by omega) (fun c_6 => ?_) (fun c_6 => ?_) | refine aw_jge hX (tgt := 31) dX3_firstDue_6 (by decide) (fun c_6 => ?_) (fun c_6 => ?_)
      · skip
        refine aw_iload_2 hX dX3_firstDue_31 ?_
        refine aw_sipush hX (v := nI 200) (by decide) dX3_firstDue_32 ?_
        first | with_reducible refine aw_iaddN hX dX3_firstDue_35 ?_ | refine aw_iadd hX dX3_firstDue_35 ?_
        refine aw_finI (hR _ _ dX3_firstDue_36) ?_ ?_
        · rw [← hp, show i = 200 by omega]; rfl
        · rfl
      · exact absurd c_6 (by omega)
    | succ n ih =>
      intro i hi hp
      refine aw_iload_3 hX dX3_firstDue_2 ?_
      refine aw_sipush hX (v := nI 200) (by decide) dX3_firstDue_3 ?_
      first | with_reducible refine aw_icmpgeN hX (tgt := 31) dX3_firstDue_6 (by decide) (by omega) (by omega) (fun c_6 => ?_) (fun c_6 => ?_) | refine aw_jge hX (tgt := 31) dX3_firstDue_6 (by decide) (fun c_6 => ?_) (fun c_6 => ?_)
      · exact absurd c_6 (by omega)
      · skip
        refine aw_iload_3 hX dX3_firstDue_9 ?_
        refine aw_aload_0 hX dX3_firstDue_10 ?_
        refine aw_iload_1 hX dX3_firstDue_11 ?_
        refine aw_iload_2 hX dX3_firstDue_12 ?_
        refine aw_iload_3 hX dX3_firstDue_13 ?_
        first | with_reducible refine aw_iaddN hX dX3_firstDue_14 ?_ | refine aw_iadd hX dX3_firstDue_14 ?_
        refine cv_X3_spanOn hX ml_X3_43 dX3_firstDue_15 (m_X3_spanOn d G S _ _ hs hst) (Nat.le_of_ble_eq_true rfl) ?_
        first | with_reducible refine aw_icmpltN hX (tgt := 25) dX3_firstDue_18 (by decide) (by omega) (by omega) (fun c_18 => ?_) (fun c_18 => ?_) | refine aw_jlt hX (tgt := 25) dX3_firstDue_18 (by decide) (fun c_18 => ?_) (fun c_18 => ?_)
        · skip
          first | with_reducible refine aw_iinc_3N hX rfl (by decide) dX3_firstDue_25 ?_ | refine aw_iinc_3 hX rfl (by decide) dX3_firstDue_25 ?_
          refine aw_goto hX (tgt := 2) dX3_firstDue_28 (by decide) ?_
          exact ih (i + 1) (by omega) (by rw [← hp]; simp [fdL, c_6, c_18])
        · skip
          refine aw_iload_2 hX dX3_firstDue_21 ?_
          refine aw_iload_3 hX dX3_firstDue_22 ?_
          first | with_reducible refine aw_iaddN hX dX3_firstDue_23 ?_ | refine aw_iadd hX dX3_firstDue_23 ?_
          refine aw_finI (hR _ _ dX3_firstDue_24) ?_ ?_
          · rw [← hp]; simp [fdL, c_6, c_18]
          · rfl
  refine aw_iconst hX (v := nI 1) (by decide) dX3_firstDue_0 ?_
  refine aw_istore_3 hX rfl (by decide) dX3_firstDue_1 ?_
  exact loop 199 1 (by omega) rfl
/-- the first n ITEMS of THE DRAFT come to the book, from place e on -/
def cpS (e : Nat) (S : St) : Nat → St
  | 0 => S
  | n + 1 => sA (sA (sA (cpS e S n) 16 (e + n) (S.2.1 11 n)) 17 (e + n) (S.2.1 12 n)) 18 (e + n) (S.2.1 13 n)
theorem cpS_N {e : Nat} {S : St} : ∀ {n : Nat}, (cpS e S n).1 = S.1
  | 0 => rfl
  | n + 1 => cpS_N (n := n)
theorem cpS_A {e : Nat} {S : St} {j : Nat} (h : j < 16 ∨ 18 < j) : ∀ {n : Nat}, (cpS e S n).2.1 j = S.2.1 j
  | 0 => rfl
  | n + 1 => by
    show (sA (sA (sA (cpS e S n) 16 (e + n) (S.2.1 11 n)) 17 (e + n) (S.2.1 12 n)) 18 (e + n) (S.2.1 13 n)).2.1 j = S.2.1 j
    rw [sA_A, if_neg (by omega), sA_A, if_neg (by omega), sA_A, if_neg (by omega)]
    exact cpS_A h
theorem cpS_11 {e n : Nat} {S : St} : (cpS e S n).2.1 11 = S.2.1 11 := cpS_A (by omega)
theorem cpS_12 {e n : Nat} {S : St} : (cpS e S n).2.1 12 = S.2.1 12 := cpS_A (by omega)
theorem cpS_13 {e n : Nat} {S : St} : (cpS e S n).2.1 13 = S.2.1 13 := cpS_A (by omega)
theorem cpS_14 {e n : Nat} {S : St} : (cpS e S n).2.1 14 = S.2.1 14 := cpS_A (by omega)
theorem cpS_15 {e n : Nat} {S : St} : (cpS e S n).2.1 15 = S.2.1 15 := cpS_A (by omega)
set_option maxHeartbeats 4000000 in
set_option maxRecDepth 100000 in
theorem m_X3_add (d : Nat) (G : GT) (S : St) (e t : Nat) (he : S.2.1 15 (S.1 6) = nI e) (hs : S.1 6 < 6) (hn : S.1 3 ≤ 30) (hen : e + S.1 3 ≤ 180) : rX3_add G (d + 1) [.ref (gad G 2), .ref (gad G 1), .int (nI t)] S (some (.int (nI (S.1 6)))) (sA (sN (sA (cpS e S (S.1 3)) 14 (S.1 6) (nI t)) 6 (S.1 6 + 1)) 15 (S.1 6 + 1) (nI (e + S.1 3))) := by
  refine runs_I (d := d) (by decide) (Nat.le_of_ble_eq_true rfl) (fun X (hX : XC X G d RX3 cX3_add 5) hR => ?_)
  show AW X G 0 [.ref (gad G 2), .ref (gad G 1), .int (nI t), .null, .null] [] S
  have loop : ∀ n i : Nat, i + n = S.1 3 → AW X G 13 [.ref (gad G 2), .ref (gad G 1), .int (nI t), .int (nI (e + i)), .int (nI i)] [] (cpS e S i) := by
    intro n
    induction n with
    | zero =>
      intro i hi
      obtain rfl : i = S.1 3 := by omega
      refine aw_iload_4 hX dX3_add_13 ?_
      refine aw_aload_1 hX dX3_add_15 ?_
      refine ag_X0_items hX fl_X3_33 dX3_add_16 ?_
      try simp only [sN_N, sN_A, sN_L, sN_R, sA_N, sA_A, sA_L, sA_R, sL_N, sL_A, sL_L, sL_R, sR_N, sR_A, sR_L, sR_R, reduceIte, cpS_N, cpS_11, cpS_12, cpS_13]
      first | with_reducible refine aw_icmpgeN hX (tgt := 79) dX3_add_19 (by decide) (by omega) (by omega) (fun c_19 => ?_) (fun c_19 => ?_) | refine aw_jge hX (tgt := 79) dX3_add_19 (by decide) (fun c_19 => ?_) (fun c_19 => ?_)
      · skip
        refine aw_aload_0 hX dX3_add_79 ?_
        refine ag_X3_told hX fl_X3_11 dX3_add_80 ?_
        try simp only [sN_N, sN_A, sN_L, sN_R, sA_N, sA_A, sA_L, sA_R, sL_N, sL_A, sL_L, sL_R, sR_N, sR_A, sR_L, sR_R, reduceIte, cpS_N, cpS_11, cpS_12, cpS_13]
        refine aw_aload_0 hX dX3_add_83 ?_
        refine ag_X3_size hX fl_X3_29 dX3_add_84 ?_
        try simp only [sN_N, sN_A, sN_L, sN_R, sA_N, sA_A, sA_L, sA_R, sL_N, sL_A, sL_L, sL_R, sR_N, sR_A, sR_L, sR_R, reduceIte, cpS_N, cpS_11, cpS_12, cpS_13]
        refine aw_iload_2 hX dX3_add_87 ?_
        refine aw_iast hX dX3_add_88 rfl (fun _ => rfl) (by decide) (by omega) ?_
        refine aw_aload_0 hX dX3_add_89 ?_
        refine aw_dup hX rfl dX3_add_90 ?_
        refine ag_X3_size hX fl_X3_29 dX3_add_91 ?_
        try simp only [sN_N, sN_A, sN_L, sN_R, sA_N, sA_A, sA_L, sA_R, sL_N, sL_A, sL_L, sL_R, sR_N, sR_A, sR_L, sR_R, reduceIte, cpS_N, cpS_11, cpS_12, cpS_13]
        refine aw_iconst hX (v := nI 1) (by decide) dX3_add_94 ?_
        first | with_reducible refine aw_iaddN hX dX3_add_95 ?_ | refine aw_iadd hX dX3_add_95 ?_
        refine ap_X3_size hX fl_X3_29 dX3_add_96 ?_
        refine aw_aload_0 hX dX3_add_99 ?_
        refine ag_X3_start hX fl_X3_15 dX3_add_100 ?_
        try simp only [sN_N, sN_A, sN_L, sN_R, sA_N, sA_A, sA_L, sA_R, sL_N, sL_A, sL_L, sL_R, sR_N, sR_A, sR_L, sR_R, reduceIte, cpS_N, cpS_11, cpS_12, cpS_13]
        refine aw_aload_0 hX dX3_add_103 ?_
        refine ag_X3_size hX fl_X3_29 dX3_add_104 ?_
        try simp only [sN_N, sN_A, sN_L, sN_R, sA_N, sA_A, sA_L, sA_R, sL_N, sL_A, sL_L, sL_R, sR_N, sR_A, sR_L, sR_R, reduceIte, cpS_N, cpS_11, cpS_12, cpS_13]
        refine aw_iload_3 hX dX3_add_107 ?_
        refine aw_iast hX dX3_add_108 rfl (fun _ => rfl) (by decide) (by omega) ?_
        refine aw_aload_0 hX dX3_add_109 ?_
        refine ag_X3_size hX fl_X3_29 dX3_add_110 ?_
        try simp only [sN_N, sN_A, sN_L, sN_R, sA_N, sA_A, sA_L, sA_R, sL_N, sL_A, sL_L, sL_R, sR_N, sR_A, sR_L, sR_R, reduceIte, cpS_N, cpS_11, cpS_12, cpS_13]
        refine aw_iconst hX (v := nI 1) (by decide) dX3_add_113 ?_
        first | with_reducible refine aw_isubN hX (by omega) dX3_add_114 ?_ | refine aw_isub hX dX3_add_114 ?_
        refine aw_finI (hR _ _ dX3_add_115) ?_ ?_
        · first | rfl | simp
        · rfl
      · exact absurd c_19 (by omega)
    | succ n ih =>
      intro i hi
      refine aw_iload_4 hX dX3_add_13 ?_
      refine aw_aload_1 hX dX3_add_15 ?_
      refine ag_X0_items hX fl_X3_33 dX3_add_16 ?_
      try simp only [sN_N, sN_A, sN_L, sN_R, sA_N, sA_A, sA_L, sA_R, sL_N, sL_A, sL_L, sL_R, sR_N, sR_A, sR_L, sR_R, reduceIte, cpS_N, cpS_11, cpS_12, cpS_13]
      first | with_reducible refine aw_icmpgeN hX (tgt := 79) dX3_add_19 (by decide) (by omega) (by omega) (fun c_19 => ?_) (fun c_19 => ?_) | refine aw_jge hX (tgt := 79) dX3_add_19 (by decide) (fun c_19 => ?_) (fun c_19 => ?_)
      · exact absurd c_19 (by omega)
      · skip
        refine aw_iload_3 hX dX3_add_22 ?_
        refine aw_aload_0 hX dX3_add_23 ?_
        refine ag_X3_itemFuel hX fl_X3_20 dX3_add_24 ?_
        try simp only [sN_N, sN_A, sN_L, sN_R, sA_N, sA_A, sA_L, sA_R, sL_N, sL_A, sL_L, sL_R, sR_N, sR_A, sR_L, sR_R, reduceIte, cpS_N, cpS_11, cpS_12, cpS_13]
        refine aw_alen hX dX3_add_27 rfl ?_
        first | with_reducible refine aw_icmpgeN hX (tgt := 79) dX3_add_28 (by decide) (by omega) (by omega) (fun c_28 => ?_) (fun c_28 => ?_) | refine aw_jge hX (tgt := 79) dX3_add_28 (by decide) (fun c_28 => ?_) (fun c_28 => ?_)
        · exact absurd c_28 (by omega)
        · skip
          refine aw_aload_0 hX dX3_add_31 ?_
          refine ag_X3_itemFuel hX fl_X3_20 dX3_add_32 ?_
          try simp only [sN_N, sN_A, sN_L, sN_R, sA_N, sA_A, sA_L, sA_R, sL_N, sL_A, sL_L, sL_R, sR_N, sR_A, sR_L, sR_R, reduceIte, cpS_N, cpS_11, cpS_12, cpS_13]
          refine aw_iload_3 hX dX3_add_35 ?_
          refine aw_aload_1 hX dX3_add_36 ?_
          refine ag_X0_itemFuel hX fl_X3_36 dX3_add_37 ?_
          try simp only [sN_N, sN_A, sN_L, sN_R, sA_N, sA_A, sA_L, sA_R, sL_N, sL_A, sL_L, sL_R, sR_N, sR_A, sR_L, sR_R, reduceIte, cpS_N, cpS_11, cpS_12, cpS_13]
          refine aw_iload_4 hX dX3_add_40 ?_
          refine aw_iald hX dX3_add_42 rfl (by decide) (by omega) ?_
          try simp only [sN_N, sN_A, sN_L, sN_R, sA_N, sA_A, sA_L, sA_R, sL_N, sL_A, sL_L, sL_R, sR_N, sR_A, sR_L, sR_R, reduceIte, cpS_N, cpS_11, cpS_12, cpS_13]
          refine aw_iast hX dX3_add_43 rfl (fun _ => rfl) (by decide) (by omega) ?_
          refine aw_aload_0 hX dX3_add_44 ?_
          refine ag_X3_itemSpan hX fl_X3_23 dX3_add_45 ?_
          try simp only [sN_N, sN_A, sN_L, sN_R, sA_N, sA_A, sA_L, sA_R, sL_N, sL_A, sL_L, sL_R, sR_N, sR_A, sR_L, sR_R, reduceIte, cpS_N, cpS_11, cpS_12, cpS_13]
          refine aw_iload_3 hX dX3_add_48 ?_
          refine aw_aload_1 hX dX3_add_49 ?_
          refine ag_X0_itemSpan hX fl_X3_37 dX3_add_50 ?_
          try simp only [sN_N, sN_A, sN_L, sN_R, sA_N, sA_A, sA_L, sA_R, sL_N, sL_A, sL_L, sL_R, sR_N, sR_A, sR_L, sR_R, reduceIte, cpS_N, cpS_11, cpS_12, cpS_13]
          refine aw_iload_4 hX dX3_add_53 ?_
          refine aw_iald hX dX3_add_55 rfl (by decide) (by omega) ?_
          try simp only [sN_N, sN_A, sN_L, sN_R, sA_N, sA_A, sA_L, sA_R, sL_N, sL_A, sL_L, sL_R, sR_N, sR_A, sR_L, sR_R, reduceIte, cpS_N, cpS_11, cpS_12, cpS_13]
          refine aw_iast hX dX3_add_56 rfl (fun _ => rfl) (by decide) (by omega) ?_
          refine aw_aload_0 hX dX3_add_57 ?_
          refine ag_X3_itemFrom hX fl_X3_26 dX3_add_58 ?_
          try simp only [sN_N, sN_A, sN_L, sN_R, sA_N, sA_A, sA_L, sA_R, sL_N, sL_A, sL_L, sL_R, sR_N, sR_A, sR_L, sR_R, reduceIte, cpS_N, cpS_11, cpS_12, cpS_13]
          refine aw_iload_3 hX dX3_add_61 ?_
          refine aw_aload_1 hX dX3_add_62 ?_
          refine ag_X0_itemFrom hX fl_X3_38 dX3_add_63 ?_
          try simp only [sN_N, sN_A, sN_L, sN_R, sA_N, sA_A, sA_L, sA_R, sL_N, sL_A, sL_L, sL_R, sR_N, sR_A, sR_L, sR_R, reduceIte, cpS_N, cpS_11, cpS_12, cpS_13]
          refine aw_iload_4 hX dX3_add_66 ?_
          refine aw_iald hX dX3_add_68 rfl (by decide) (by omega) ?_
          try simp only [sN_N, sN_A, sN_L, sN_R, sA_N, sA_A, sA_L, sA_R, sL_N, sL_A, sL_L, sL_R, sR_N, sR_A, sR_L, sR_R, reduceIte, cpS_N, cpS_11, cpS_12, cpS_13]
          refine aw_iast hX dX3_add_69 rfl (fun _ => rfl) (by decide) (by omega) ?_
          first | with_reducible refine aw_iinc_3N hX rfl (by decide) dX3_add_70 ?_ | refine aw_iinc_3 hX rfl (by decide) dX3_add_70 ?_
          first | with_reducible refine aw_iinc_4N hX rfl (by decide) dX3_add_73 ?_ | refine aw_iinc_4 hX rfl (by decide) dX3_add_73 ?_
          refine aw_goto hX (tgt := 13) dX3_add_76 (by decide) ?_
          exact ih (i + 1) (by omega)
  refine aw_aload_0 hX dX3_add_0 ?_
  refine ag_X3_start hX fl_X3_15 dX3_add_1 ?_
  refine aw_aload_0 hX dX3_add_4 ?_
  refine ag_X3_size hX fl_X3_29 dX3_add_5 ?_
  refine aw_iald hX dX3_add_8 rfl (by decide) (by omega) ?_
  refine aw_ti he ?_
  refine aw_istore_3 hX rfl (by decide) dX3_add_9 ?_
  refine aw_iconst hX (v := nI 0) (by decide) dX3_add_10 ?_
  refine aw_istore_4 hX rfl (by decide) dX3_add_11 ?_
  exact loop (S.1 3) 0 (by omega)
end
section
def hasB (f : Int32) (n : Nat) : Bool := decide (nI 0 ≤ f) && !decide (nI n ≤ f)
theorem hasB_of {f : Int32} {n : Nat} (h : hasB f n = true) (hn : n < 2 ^ 31) : ∃ i : Nat, f = nI i ∧ i < n := by
  simp only [hasB, Bool.and_eq_true, decide_eq_true_eq, Bool.not_eq_true', decide_eq_false_iff_not] at h
  have h0 : ¬ f < 0 := i_le h.1
  obtain ⟨j, hj, rfl⟩ := nI_of h0
  refine ⟨j, rfl, ?_⟩
  have := h.2
  rw [nI_leI hn hj] at this
  omega
theorem hasB_t {i n : Nat} (h : i < n) (hn : n < 2 ^ 31) : hasB (nI i) n = true := by
  simp only [hasB, Bool.and_eq_true, decide_eq_true_eq, Bool.not_eq_true', decide_eq_false_iff_not, nI_leI (show 0 < 2 ^ 31 by decide) (show i < 2 ^ 31 by omega), nI_leI hn (show i < 2 ^ 31 by omega)]
  omega
theorem m_X2_has_b (d : Nat) (G : GT) (S : St) (f : Int32) (b : Bool) (hs : S.1 7 ≤ 12) (h : hasB f (S.1 7) = b) : rX2_has G (d + 1) [.ref (gad G 3), .int f] S (some (.int (bI b))) S := by
  subst h; exact m_X2_has d G S f hs
theorem m_X1_has_b (d : Nat) (G : GT) (S : St) (f : Int32) (b : Bool) (hs : S.1 9 ≤ 10) (h : hasB f (S.1 9) = b) : rX1_has G (d + 1) [.ref (gad G 5), .int f] S (some (.int (bI b))) S := by
  subst h; exact m_X1_has d G S f hs
theorem m_X7_within_b (d : Nat) (G : GT) (S : St) (v lo hi : Int32) (b : Bool) (h : inR v lo hi = b) : rX7_within G (d + 1) [.int v, .int lo, .int hi] S (some (.int (bI b))) S := by
  subst h; exact m_X7_within d G S v lo hi
theorem m_X8_in_b (d : Nat) (G : GT) (S : St) (v lo hi : Int32) (b : Bool) (h : inR v lo hi = b) : rX8_in G (d + 1) [.int v, .int lo, .int hi] S (some (.int (bI b))) S := by
  subst h; exact m_X8_in d G S v lo hi
theorem m_X7_isHand_b (d : Nat) (G : GT) (S : St) (v : Int32) (b : Bool) (h : inR v (nI 0) (nI 3) = b) : rX7_isHand G (d + 2) [.int v] S (some (.int (bI b))) S := by
  subst h; exact m_X7_isHand d G S v
theorem m_X8_isHand_b (d : Nat) (G : GT) (S : St) (v : Int32) (b : Bool) (h : inR v (nI 0) (nI 3) = b) : rX8_isHand G (d + 2) [.int v] S (some (.int (bI b))) S := by
  subst h; exact m_X8_isHand d G S v
def pulR (S : St) (i k : Nat) : Int32 := S.2.1 21 i * gpull k / S.2.1 22 i
def mx0 (z : Int32) : Int32 := if nI 0 < z then z else nI 0
def swX (S : St) (i : Nat) (day : Int32) : Int32 := match laL (S.2.1 36) (S.2.1 37) (nI i) day (S.1 10) with
  | none => S.2.1 27 i
  | some k => S.2.1 37 k
def swhX (S : St) (i : Nat) (day : Int32) : Int32 := match laL (S.2.1 36) (S.2.1 37) (nI i) day (S.1 10) with
  | none => -9
  | some k => S.2.1 38 k
def duO (nl : Nat) (td st ff sp fr : Nat → Int32) (fuel : Int32) (w : Nat) : Nat := w + fdL (fun j => decide (spO nl td st ff sp fr fuel (nI (w + j)) ≤ nI j)) 199 1
def duX (S : St) (fuel : Int32) (w : Nat) : Nat := duO (S.1 6) (S.2.1 14) (S.2.1 15) (S.2.1 16) (S.2.1 17) (S.2.1 18) fuel w
def knX (S : St) (f day : Int32) : Int32 := (knL (S.2.1 30) (S.2.1 31) (S.2.1 32) (S.2.1 33) f day (S.1 8)).1
def foX (S : St) (i : Nat) : Bool := decide (nI 3 ≤ S.2.1 28 i) || decide (knX S (nI i) (nI (S.1 0)) = 0)
def liL (il : Nat → Int32) : Nat → Nat → Int32
  | 0, _ => -9
  | n + 1, h => if il h = 0 then nI h else liL il n (h + 1)
def nhL (x y hd il : Nat → Int32) (i : Nat) : Nat → Int32 × Int32
  | 0 => (-9, nI 1000000)
  | n + 1 => if il (tn (hd n)) = 0 ∧ (¬ (nhL x y hd il i n).2 ≤ wyR x y i n ∨ (wyR x y i n = (nhL x y hd il i n).2 ∧ ¬ (nhL x y hd il i n).1 ≤ hd n)) then (hd n, wyR x y i n) else nhL x y hd il i n
def doO (n : Nat) (x y hd il : Nat → Int32) (i : Nat) : Int32 := if il (tn (hd i)) = 0 then hd i else if (nhL x y hd il i n).1 = -9 then liL il 4 0 else (nhL x y hd il i n).1
def doX (S : St) (i : Nat) : Int32 := doO (S.1 7) (S.2.1 24) (S.2.1 25) (S.2.1 26) (S.2.1 9) i
def HdOK (n : Nat) (hd : Nat → Int32) : Prop := ∀ j, j < n → hd j = nI (tn (hd j)) ∧ tn (hd j) < 4
def BkOK (S : St) : Prop := S.1 6 ≤ 6 ∧ StOK (S.1 6) (S.2.1 15)
set_option maxHeartbeats 4000000 in
set_option maxRecDepth 100000 in
theorem m_X7_straightPull (d : Nat) (G : GT) (S : St) (i k : Nat) (hi : i < 12) (hw : ¬ S.2.1 22 i ≤ 0) (hk : S.2.1 20 i = nI k) (hk3 : k < 3) : rX7_straightPull G (d + 2) [.ref (gad G 0), .int (nI i)] S (some (.int (pulR S i k))) (sL S 0 (S.2.2.1 0 + 1)) := by
  refine runs_I (d := (d + 1)) (by decide) (Nat.le_of_ble_eq_true rfl) (fun X (hX : XC X G (d + 1) RX7 cX7_straightPull 2) hR => ?_)
  show AW X G 0 [.ref (gad G 0), .int (nI i)] [] S
  refine aw_aload_0 hX dX7_straightPull_0 ?_
  refine aw_dup hX rfl dX7_straightPull_1 ?_
  refine ag_X7_asked hX fl_X7_69 dX7_straightPull_2 ?_
  refine aw_lconst hX (v := 1) (by decide) dX7_straightPull_5 ?_
  refine aw_ladd hX dX7_straightPull_6 ?_
  refine ap_X7_asked hX fl_X7_69 dX7_straightPull_7 ?_
  refine aw_aload_0 hX dX7_straightPull_10 ?_
  refine ag_X7_flues hX fl_X7_26 dX7_straightPull_11 ?_
  try simp only [sN_N, sN_A, sN_L, sN_R, sA_N, sA_A, sA_L, sA_R, sL_N, sL_A, sL_L, sL_R, sR_N, sR_A, sR_L, sR_R, reduceIte]
  refine aw_iload_1 hX dX7_straightPull_14 ?_
  refine cv_X2_openPull hX ml_X7_247 dX7_straightPull_15 (m_X2_openPull d G _ i k hi hw hk hk3) (Nat.le_of_ble_eq_true rfl) ?_
  refine aw_finI (hR _ _ dX7_straightPull_18) ?_ ?_
  · rfl
  · rfl
set_option maxHeartbeats 4000000 in
set_option maxRecDepth 100000 in
theorem m_X7_bentPull (d : Nat) (G : GT) (S : St) (i k : Nat) (hi : i < 12) (hw : ¬ S.2.1 22 i ≤ 0) (hk : S.2.1 20 i = nI k) (hk3 : k < 3) : rX7_bentPull G (d + 3) [.ref (gad G 0), .int (nI i)] S (some (.int (mx0 (pulR S i k - nI 2 * S.2.1 23 i)))) (sL S 0 (S.2.2.1 0 + 10 + 1)) := by
  refine runs_I (d := (d + 2)) (by decide) (Nat.le_of_ble_eq_true rfl) (fun X (hX : XC X G (d + 2) RX7 cX7_bentPull 2) hR => ?_)
  show AW X G 0 [.ref (gad G 0), .int (nI i)] [] S
  refine aw_aload_0 hX dX7_bentPull_0 ?_
  refine aw_dup hX rfl dX7_bentPull_1 ?_
  refine ag_X7_asked hX fl_X7_69 dX7_bentPull_2 ?_
  refine aw_ldc2 hX kc_X7_250 dX7_bentPull_5 ?_
  refine aw_ladd hX dX7_bentPull_8 ?_
  refine ap_X7_asked hX fl_X7_69 dX7_bentPull_9 ?_
  refine aw_iconst hX (v := nI 0) (by decide) dX7_bentPull_12 ?_
  refine aw_aload_0 hX dX7_bentPull_13 ?_
  refine aw_iload_1 hX dX7_bentPull_14 ?_
  refine cv_X7_straightPull hX ml_X7_136 dX7_bentPull_15 (m_X7_straightPull d G _ i k hi hw hk hk3) (Nat.le_of_ble_eq_true rfl) ?_
  refine aw_iconst hX (v := nI 2) (by decide) dX7_bentPull_18 ?_
  refine aw_aload_0 hX dX7_bentPull_19 ?_
  refine ag_X7_flues hX fl_X7_26 dX7_bentPull_20 ?_
  try simp only [sN_N, sN_A, sN_L, sN_R, sA_N, sA_A, sA_L, sA_R, sL_N, sL_A, sL_L, sL_R, sR_N, sR_A, sR_L, sR_R, reduceIte]
  refine ag_X2_bends hX fl_X7_252 dX7_bentPull_23 ?_
  try simp only [sN_N, sN_A, sN_L, sN_R, sA_N, sA_A, sA_L, sA_R, sL_N, sL_A, sL_L, sL_R, sR_N, sR_A, sR_L, sR_R, reduceIte]
  refine aw_iload_1 hX dX7_bentPull_26 ?_
  refine aw_iald hX dX7_bentPull_27 rfl (by decide) (by omega) ?_
  try simp only [sN_N, sN_A, sN_L, sN_R, sA_N, sA_A, sA_L, sA_R, sL_N, sL_A, sL_L, sL_R, sR_N, sR_A, sR_L, sR_R, reduceIte]
  first | with_reducible refine aw_imulN hX dX7_bentPull_28 ?_ | refine aw_imul hX dX7_bentPull_28 ?_
  first | with_reducible refine aw_isubN hX (by omega) dX7_bentPull_29 ?_ | refine aw_isub hX dX7_bentPull_29 ?_
  refine aw_max hX ml_X7_255 dX7_bentPull_30 (Nat.le_of_ble_eq_true rfl) ?_
  refine aw_finI (hR _ _ dX7_bentPull_33) ?_ ?_
  · rfl
  · unfold sL; congr 3; funext j; by_cases h : j = 0 <;> simp [h]
set_option maxHeartbeats 4000000 in
set_option maxRecDepth 100000 in
theorem m_X7_sharedPull (d : Nat) (G : GT) (S : St) (i k : Nat) (hi : i < 12) (hw : ¬ S.2.1 22 i ≤ 0) (hk : S.2.1 20 i = nI k) (hk3 : k < 3) : rX7_sharedPull G (d + 4) [.ref (gad G 0), .int (nI i)] S (some (.int (mx0 (pulR S i k - nI 2 * S.2.1 23 i) / nI 2))) (sL S 0 (S.2.2.1 0 + 100 + 10 + 1)) := by
  refine runs_I (d := (d + 3)) (by decide) (Nat.le_of_ble_eq_true rfl) (fun X (hX : XC X G (d + 3) RX7 cX7_sharedPull 2) hR => ?_)
  show AW X G 0 [.ref (gad G 0), .int (nI i)] [] S
  refine aw_aload_0 hX dX7_sharedPull_0 ?_
  refine aw_dup hX rfl dX7_sharedPull_1 ?_
  refine ag_X7_asked hX fl_X7_69 dX7_sharedPull_2 ?_
  refine aw_ldc2 hX kc_X7_260 dX7_sharedPull_5 ?_
  refine aw_ladd hX dX7_sharedPull_8 ?_
  refine ap_X7_asked hX fl_X7_69 dX7_sharedPull_9 ?_
  refine aw_aload_0 hX dX7_sharedPull_12 ?_
  refine aw_iload_1 hX dX7_sharedPull_13 ?_
  refine cv_X7_bentPull hX ml_X7_140 dX7_sharedPull_14 (m_X7_bentPull d G _ i k hi hw hk hk3) (Nat.le_of_ble_eq_true rfl) ?_
  refine aw_iconst hX (v := nI 2) (by decide) dX7_sharedPull_17 ?_
  refine aw_idiv hX (by decide) dX7_sharedPull_18 ?_
  refine aw_finI (hR _ _ dX7_sharedPull_19) ?_ ?_
  · rfl
  · unfold sL; congr 3; funext j; by_cases h : j = 0 <;> simp [h]
set_option maxHeartbeats 4000000 in
set_option maxRecDepth 100000 in
theorem m_X7_sweptBy (d : Nat) (G : GT) (S : St) (i : Nat) (day : Int32) (hi : i < 12) (hs : S.1 10 ≤ 100) : rX7_sweptBy G (d + 2) [.ref (gad G 0), .int (nI i), .int day] S (some (.int (swX S i day))) S := by
  refine runs_I (d := (d + 1)) (by decide) (Nat.le_of_ble_eq_true rfl) (fun X (hX : XC X G (d + 1) RX7 cX7_sweptBy 4) hR => ?_)
  show AW X G 0 [.ref (gad G 0), .int (nI i), .int day, .null] [] S
  refine aw_aload_0 hX dX7_sweptBy_0 ?_
  refine ag_X7_sweeps hX fl_X7_47 dX7_sweptBy_1 ?_
  refine aw_iload_1 hX dX7_sweptBy_4 ?_
  refine aw_iload_2 hX dX7_sweptBy_5 ?_
  refine cv_X5_latest hX ml_X7_262 dX7_sweptBy_6 (m_X5_latest d G S _ _ hs) (Nat.le_of_ble_eq_true rfl) ?_
  cases hla : laL (S.2.1 36) (S.2.1 37) (nI i) day (S.1 10) with
  | none =>
    simp only [oN]
    refine aw_istore_3 hX rfl (by decide) dX7_sweptBy_9 ?_
    refine aw_iload_3 hX dX7_sweptBy_10 ?_
    refine aw_bipush hX (v := (-9)) (by decide) dX7_sweptBy_11 ?_
    first | with_reducible refine aw_icmpneN hX (tgt := 28) dX7_sweptBy_13 (by decide) (by omega) (by omega) (fun c_13 => ?_) (fun c_13 => ?_) | refine aw_icmpne hX (tgt := 28) dX7_sweptBy_13 (by decide) (fun c_13 => ?_) (fun c_13 => ?_)
    · exact absurd rfl c_13
    · skip
      refine aw_aload_0 hX dX7_sweptBy_16 ?_
      refine ag_X7_flues hX fl_X7_26 dX7_sweptBy_17 ?_
      refine ag_X2_came hX fl_X7_181 dX7_sweptBy_20 ?_
      refine aw_iload_1 hX dX7_sweptBy_23 ?_
      refine aw_iald hX dX7_sweptBy_24 rfl (by decide) (by omega) ?_
      refine aw_goto hX (tgt := 37) dX7_sweptBy_25 (by decide) ?_
      refine aw_finI (hR _ _ dX7_sweptBy_37) ?_ ?_
      · simp [swX, hla]
      · rfl
  | some k =>
    have hk := laL_lt hla
    simp only [oN]
    refine aw_istore_3 hX rfl (by decide) dX7_sweptBy_9 ?_
    refine aw_iload_3 hX dX7_sweptBy_10 ?_
    refine aw_bipush hX (v := (-9)) (by decide) dX7_sweptBy_11 ?_
    first | with_reducible refine aw_icmpneN hX (tgt := 28) dX7_sweptBy_13 (by decide) (by omega) (by omega) (fun c_13 => ?_) (fun c_13 => ?_) | refine aw_icmpne hX (tgt := 28) dX7_sweptBy_13 (by decide) (fun c_13 => ?_) (fun c_13 => ?_)
    · skip
      refine aw_aload_0 hX dX7_sweptBy_28 ?_
      refine ag_X7_sweeps hX fl_X7_47 dX7_sweptBy_29 ?_
      refine ag_X5_day hX fl_X7_265 dX7_sweptBy_32 ?_
      refine aw_iload_3 hX dX7_sweptBy_35 ?_
      refine aw_iald hX dX7_sweptBy_36 rfl (by decide) (by omega) ?_
      refine aw_finI (hR _ _ dX7_sweptBy_37) ?_ ?_
      · simp [swX, hla]
      · rfl
    · exact absurd c_13 (ne9 (by omega))
set_option maxHeartbeats 4000000 in
set_option maxRecDepth 100000 in
theorem m_X7_sweeperBy (d : Nat) (G : GT) (S : St) (i : Nat) (day : Int32) (hi : i < 12) (hs : S.1 10 ≤ 100) : rX7_sweeperBy G (d + 2) [.ref (gad G 0), .int (nI i), .int day] S (some (.int (swhX S i day))) S := by
  refine runs_I (d := (d + 1)) (by decide) (Nat.le_of_ble_eq_true rfl) (fun X (hX : XC X G (d + 1) RX7 cX7_sweeperBy 4) hR => ?_)
  show AW X G 0 [.ref (gad G 0), .int (nI i), .int day, .null] [] S
  refine aw_aload_0 hX dX7_sweeperBy_0 ?_
  refine ag_X7_sweeps hX fl_X7_47 dX7_sweeperBy_1 ?_
  refine aw_iload_1 hX dX7_sweeperBy_4 ?_
  refine aw_iload_2 hX dX7_sweeperBy_5 ?_
  refine cv_X5_latest hX ml_X7_262 dX7_sweeperBy_6 (m_X5_latest d G S _ _ hs) (Nat.le_of_ble_eq_true rfl) ?_
  cases hla : laL (S.2.1 36) (S.2.1 37) (nI i) day (S.1 10) with
  | none =>
    simp only [oN]
    refine aw_istore_3 hX rfl (by decide) dX7_sweeperBy_9 ?_
    refine aw_iload_3 hX dX7_sweeperBy_10 ?_
    refine aw_bipush hX (v := (-9)) (by decide) dX7_sweeperBy_11 ?_
    first | with_reducible refine aw_icmpneN hX (tgt := 21) dX7_sweeperBy_13 (by decide) (by omega) (by omega) (fun c_13 => ?_) (fun c_13 => ?_) | refine aw_icmpne hX (tgt := 21) dX7_sweeperBy_13 (by decide) (fun c_13 => ?_) (fun c_13 => ?_)
    · exact absurd rfl c_13
    · skip
      refine aw_bipush hX (v := (-9)) (by decide) dX7_sweeperBy_16 ?_
      refine aw_goto hX (tgt := 30) dX7_sweeperBy_18 (by decide) ?_
      refine aw_finI (hR _ _ dX7_sweeperBy_30) ?_ ?_
      · simp [swhX, hla]
      · rfl
  | some k =>
    have hk := laL_lt hla
    simp only [oN]
    refine aw_istore_3 hX rfl (by decide) dX7_sweeperBy_9 ?_
    refine aw_iload_3 hX dX7_sweeperBy_10 ?_
    refine aw_bipush hX (v := (-9)) (by decide) dX7_sweeperBy_11 ?_
    first | with_reducible refine aw_icmpneN hX (tgt := 21) dX7_sweeperBy_13 (by decide) (by omega) (by omega) (fun c_13 => ?_) (fun c_13 => ?_) | refine aw_icmpne hX (tgt := 21) dX7_sweeperBy_13 (by decide) (fun c_13 => ?_) (fun c_13 => ?_)
    · skip
      refine aw_aload_0 hX dX7_sweeperBy_21 ?_
      refine ag_X7_sweeps hX fl_X7_47 dX7_sweeperBy_22 ?_
      refine ag_X5_hand hX fl_X7_266 dX7_sweeperBy_25 ?_
      refine aw_iload_3 hX dX7_sweeperBy_28 ?_
      refine aw_iald hX dX7_sweeperBy_29 rfl (by decide) (by omega) ?_
      refine aw_finI (hR _ _ dX7_sweeperBy_30) ?_ ?_
      · simp [swhX, hla]
      · rfl
    · exact absurd c_13 (ne9 (by omega))
set_option maxHeartbeats 4000000 in
set_option maxRecDepth 100000 in
theorem m_X7_dueOf (d : Nat) (G : GT) (S : St) (i w : Nat) (hi : i < 12) (hs : S.1 10 ≤ 100) (hb : BkOK S) (hw : swX S i (nI (S.1 0)) = nI w) (hw5 : w ≤ 500) : rX7_dueOf G (d + 4) [.ref (gad G 0), .int (nI i)] S (some (.int (nI (duX S (S.2.1 20 i) w)))) S := by
  refine runs_I (d := (d + 3)) (by decide) (Nat.le_of_ble_eq_true rfl) (fun X (hX : XC X G (d + 3) RX7 cX7_dueOf 2) hR => ?_)
  show AW X G 0 [.ref (gad G 0), .int (nI i)] [] S
  refine aw_aload_0 hX dX7_dueOf_0 ?_
  refine ag_X7_book hX fl_X7_19 dX7_dueOf_1 ?_
  refine aw_aload_0 hX dX7_dueOf_4 ?_
  refine ag_X7_flues hX fl_X7_26 dX7_dueOf_5 ?_
  refine ag_X2_fuel hX fl_X7_146 dX7_dueOf_8 ?_
  refine aw_iload_1 hX dX7_dueOf_11 ?_
  refine aw_iald hX dX7_dueOf_12 rfl (by decide) (by omega) ?_
  refine aw_aload_0 hX dX7_dueOf_13 ?_
  refine aw_iload_1 hX dX7_dueOf_14 ?_
  refine aw_aload_0 hX dX7_dueOf_15 ?_
  refine ag_X7_today hX fl_X7_62 dX7_dueOf_16 ?_
  refine cv_X7_sweptBy hX ml_X7_155 dX7_dueOf_19 (m_X7_sweptBy (d + 1) G S i _ hi hs) (Nat.le_of_ble_eq_true rfl) ?_
  refine aw_ti hw ?_
  refine cv_X3_firstDue hX ml_X7_267 dX7_dueOf_22 (m_X3_firstDue d G S _ w hw5 hb.1 hb.2) (Nat.le_of_ble_eq_true rfl) ?_
  refine aw_finI (hR _ _ dX7_dueOf_25) ?_ ?_
  · rfl
  · rfl
set_option maxHeartbeats 4000000 in
set_option maxRecDepth 100000 in
theorem m_X7_wasBeyond (d : Nat) (G : GT) (S : St) (i w : Nat) (day : Int32) (hi : i < 12) (hs : S.1 10 ≤ 100) (hb : BkOK S) (hw : swX S i day = nI w) (hw5 : w ≤ 500) : rX7_wasBeyond G (d + 4) [.ref (gad G 0), .int (nI i), .int day] S (some (.int (bI (!decide (day ≤ nI (duX S (S.2.1 20 i) w)))))) S := by
  refine runs_Z (d := (d + 3)) (by decide) (Nat.le_of_ble_eq_true rfl) (fun X (hX : XC X G (d + 3) RX7 cX7_wasBeyond 3) hR => ?_)
  show AW X G 0 [.ref (gad G 0), .int (nI i), .int day] [] S
  refine aw_iload_2 hX dX7_wasBeyond_0 ?_
  refine aw_aload_0 hX dX7_wasBeyond_1 ?_
  refine ag_X7_book hX fl_X7_19 dX7_wasBeyond_2 ?_
  refine aw_aload_0 hX dX7_wasBeyond_5 ?_
  refine ag_X7_flues hX fl_X7_26 dX7_wasBeyond_6 ?_
  refine ag_X2_fuel hX fl_X7_146 dX7_wasBeyond_9 ?_
  refine aw_iload_1 hX dX7_wasBeyond_12 ?_
  refine aw_iald hX dX7_wasBeyond_13 rfl (by decide) (by omega) ?_
  refine aw_aload_0 hX dX7_wasBeyond_14 ?_
  refine aw_iload_1 hX dX7_wasBeyond_15 ?_
  refine aw_iload_2 hX dX7_wasBeyond_16 ?_
  refine cv_X7_sweptBy hX ml_X7_155 dX7_wasBeyond_17 (m_X7_sweptBy (d + 1) G S i _ hi hs) (Nat.le_of_ble_eq_true rfl) ?_
  refine aw_ti hw ?_
  refine cv_X3_firstDue hX ml_X7_267 dX7_wasBeyond_20 (m_X3_firstDue d G S _ w hw5 hb.1 hb.2) (Nat.le_of_ble_eq_true rfl) ?_
  first | with_reducible refine aw_icmpleN hX (tgt := 30) dX7_wasBeyond_23 (by decide) (by omega) (by omega) (fun c_23 => ?_) (fun c_23 => ?_) | refine aw_jle hX (tgt := 30) dX7_wasBeyond_23 (by decide) (fun c_23 => ?_) (fun c_23 => ?_)
  · replace c_23 : day ≤ nI (duX S (S.2.1 20 i) w) := c_23
    refine aw_iconst hX (v := nI 0) (by decide) dX7_wasBeyond_30 ?_
    refine aw_finI (hR _ _ dX7_wasBeyond_31) ?_ ?_
    · first | exact bF (by simp [c_23]) | exact bT (by simp [c_23])
    · rfl
  · replace c_23 : ¬ day ≤ nI (duX S (S.2.1 20 i) w) := c_23
    refine aw_iconst hX (v := nI 1) (by decide) dX7_wasBeyond_26 ?_
    refine aw_goto hX (tgt := 31) dX7_wasBeyond_27 (by decide) ?_
    refine aw_finI (hR _ _ dX7_wasBeyond_31) ?_ ?_
    · first | exact bF (by simp [c_23]) | exact bT (by simp [c_23])
    · rfl
set_option maxHeartbeats 4000000 in
set_option maxRecDepth 100000 in
theorem m_X7_isForbidden (d : Nat) (G : GT) (S : St) (i : Nat) (hi : i < 12) (h8 : S.1 8 ≤ 30) : rX7_isForbidden G (d + 2) [.ref (gad G 0), .int (nI i)] S (some (.int (bI (foX S i)))) S := by
  refine runs_Z (d := (d + 1)) (by decide) (Nat.le_of_ble_eq_true rfl) (fun X (hX : XC X G (d + 1) RX7 cX7_isForbidden 2) hR => ?_)
  show AW X G 0 [.ref (gad G 0), .int (nI i)] [] S
  refine aw_aload_0 hX dX7_isForbidden_0 ?_
  refine ag_X7_flues hX fl_X7_26 dX7_isForbidden_1 ?_
  refine ag_X2_refusals hX fl_X7_158 dX7_isForbidden_4 ?_
  refine aw_iload_1 hX dX7_isForbidden_7 ?_
  refine aw_iald hX dX7_isForbidden_8 rfl (by decide) (by omega) ?_
  refine aw_iconst hX (v := nI 3) (by decide) dX7_isForbidden_9 ?_
  refine aw_jge hX (tgt := 28) dX7_isForbidden_10 (by decide) (fun c_10 => ?_) (fun c_10 => ?_)
  · skip
    refine aw_iconst hX (v := nI 1) (by decide) dX7_isForbidden_28 ?_
    refine aw_goto hX (tgt := 33) dX7_isForbidden_29 (by decide) ?_
    refine aw_finI (hR _ _ dX7_isForbidden_33) ?_ ?_
    · first | exact bF (by simp [foX, c_10]) | exact bT (by simp [foX, c_10])
    · rfl
  · skip
    refine aw_aload_0 hX dX7_isForbidden_13 ?_
    refine ag_X7_looks hX fl_X7_33 dX7_isForbidden_14 ?_
    refine aw_iload_1 hX dX7_isForbidden_17 ?_
    refine aw_aload_0 hX dX7_isForbidden_18 ?_
    refine ag_X7_today hX fl_X7_62 dX7_isForbidden_19 ?_
    refine cv_X4_asKnown hX ml_X7_188 dX7_isForbidden_22 (m_X4_asKnown d G S _ _ h8) (Nat.le_of_ble_eq_true rfl) ?_
    first | with_reducible refine aw_ifneB hX (tgt := 32) dX7_isForbidden_25 (by decide) (fun c_25 => ?_) (fun c_25 => ?_) | refine aw_ifne hX (tgt := 32) dX7_isForbidden_25 (by decide) (fun c_25 => ?_) (fun c_25 => ?_)
    · replace c_25 : ¬ knX S (nI i) (nI (S.1 0)) = 0 := c_25
      refine aw_iconst hX (v := nI 0) (by decide) dX7_isForbidden_32 ?_
      refine aw_finI (hR _ _ dX7_isForbidden_33) ?_ ?_
      · first | exact bF (by simp [foX, c_10, c_25]) | exact bT (by simp [foX, c_10, c_25])
      · rfl
    · replace c_25 : knX S (nI i) (nI (S.1 0)) = 0 := c_25
      refine aw_iconst hX (v := nI 1) (by decide) dX7_isForbidden_28 ?_
      refine aw_goto hX (tgt := 33) dX7_isForbidden_29 (by decide) ?_
      refine aw_finI (hR _ _ dX7_isForbidden_33) ?_ ?_
      · first | exact bF (by simp [foX, c_10, c_25]) | exact bT (by simp [foX, c_10, c_25])
      · rfl
set_option maxHeartbeats 4000000 in
set_option maxRecDepth 100000 in
theorem m_X7_leastHandNotIll (d : Nat) (G : GT) (S : St)  : rX7_leastHandNotIll G (d + 1) [.ref (gad G 0)] S (some (.int (liL (S.2.1 9) 4 0))) S := by
  refine runs_I (d := d) (by decide) (Nat.le_of_ble_eq_true rfl) (fun X (hX : XC X G d RX7 cX7_leastHandNotIll 2) hR => ?_)
  show AW X G 0 [.ref (gad G 0), .null] [] S
  have loop : ∀ n i : Nat, i + n = 4 → liL (S.2.1 9) n i = liL (S.2.1 9) 4 0 → AW X G 2 [.ref (gad G 0), .int (nI i)] [] S := by
    intro n
    induction n with
    | zero =>
      intro i hi hp
      refine aw_iload_1 hX dX7_leastHandNotIll_2 ?_
      refine aw_iconst hX (v := nI 4) (by decide) dX7_leastHandNotIll_3 ?_
      first | with_reducible refine aw_icmpgeN hX (tgt := 24) dX7_leastHandNotIll_4 (by decide) (by omega) (by omega) (fun c_4 => ?_) (fun c_4 => ?_) | refine aw_jge hX (tgt := 24) dX7_leastHandNotIll_4 (by decide) (fun c_4 => ?_) (fun c_4 => ?_)
      · skip
        refine aw_bipush hX (v := (-9)) (by decide) dX7_leastHandNotIll_24 ?_
        refine aw_finI (hR _ _ dX7_leastHandNotIll_26) ?_ ?_
        · rw [← hp]; rfl
        · rfl
      · exact absurd c_4 (by omega)
    | succ n ih =>
      intro i hi hp
      refine aw_iload_1 hX dX7_leastHandNotIll_2 ?_
      refine aw_iconst hX (v := nI 4) (by decide) dX7_leastHandNotIll_3 ?_
      first | with_reducible refine aw_icmpgeN hX (tgt := 24) dX7_leastHandNotIll_4 (by decide) (by omega) (by omega) (fun c_4 => ?_) (fun c_4 => ?_) | refine aw_jge hX (tgt := 24) dX7_leastHandNotIll_4 (by decide) (fun c_4 => ?_) (fun c_4 => ?_)
      · exact absurd c_4 (by omega)
      · skip
        refine aw_aload_0 hX dX7_leastHandNotIll_7 ?_
        refine ag_X7_handIsIll hX fl_X7_58 dX7_leastHandNotIll_8 ?_
        refine aw_iload_1 hX dX7_leastHandNotIll_11 ?_
        refine aw_zald hX dX7_leastHandNotIll_12 rfl (by decide) (by omega) ?_
        first | with_reducible refine aw_ifneB hX (tgt := 18) dX7_leastHandNotIll_13 (by decide) (fun c_13 => ?_) (fun c_13 => ?_) | refine aw_ifne hX (tgt := 18) dX7_leastHandNotIll_13 (by decide) (fun c_13 => ?_) (fun c_13 => ?_)
        · skip
          first | with_reducible refine aw_iinc_1N hX rfl (by decide) dX7_leastHandNotIll_18 ?_ | refine aw_iinc_1 hX rfl (by decide) dX7_leastHandNotIll_18 ?_
          refine aw_goto hX (tgt := 2) dX7_leastHandNotIll_21 (by decide) ?_
          exact ih (i + 1) (by omega) (by rw [← hp]; simp [liL, c_4, c_13])
        · skip
          refine aw_iload_1 hX dX7_leastHandNotIll_16 ?_
          refine aw_finI (hR _ _ dX7_leastHandNotIll_17) ?_ ?_
          · rw [← hp]; simp [liL, c_4, c_13]
          · rfl
  refine aw_iconst hX (v := nI 0) (by decide) dX7_leastHandNotIll_0 ?_
  refine aw_istore_1 hX rfl (by decide) dX7_leastHandNotIll_1 ?_
  exact loop 4 0 (by omega) rfl
set_option maxHeartbeats 4000000 in
set_option maxRecDepth 100000 in
theorem m_X7_nearestHand (d : Nat) (G : GT) (S : St) (i : Nat) (hi : i < 12) (hs : S.1 7 ≤ 12) (hh : HdOK (S.1 7) (S.2.1 26)) : rX7_nearestHand G (d + 2) [.ref (gad G 0), .int (nI i)] S (some (.int ((nhL (S.2.1 24) (S.2.1 25) (S.2.1 26) (S.2.1 9) i (S.1 7)).1))) S := by
  refine runs_I (d := (d + 1)) (by decide) (Nat.le_of_ble_eq_true rfl) (fun X (hX : XC X G (d + 1) RX7 cX7_nearestHand 7) hR => ?_)
  show AW X G 0 [.ref (gad G 0), .int (nI i), .null, .null, .null, .null, .null] [] S
  have loop : ∀ n j : Nat, j + n = S.1 7 → ∀ (be le : Int32) (v5 v6 : Value), v5.category = 1 → (be, le) = nhL (S.2.1 24) (S.2.1 25) (S.2.1 26) (S.2.1 9) i j → AW X G 10 [.ref (gad G 0), .int (nI i), .int be, .int le, .int (nI j), v5, v6] [] S := by
    intro n
    induction n with
    | zero =>
      intro j hj be le v5 v6 hv5 hp
      refine aw_iload_4 hX dX7_nearestHand_10 ?_
      refine aw_aload_0 hX dX7_nearestHand_12 ?_
      refine ag_X7_flues hX fl_X7_26 dX7_nearestHand_13 ?_
      refine ag_X2_size hX fl_X7_174 dX7_nearestHand_16 ?_
      first | with_reducible refine aw_icmpgeN hX (tgt := 86) dX7_nearestHand_19 (by decide) (by omega) (by omega) (fun c_19 => ?_) (fun c_19 => ?_) | refine aw_jge hX (tgt := 86) dX7_nearestHand_19 (by decide) (fun c_19 => ?_) (fun c_19 => ?_)
      · skip
        refine aw_iload_2 hX dX7_nearestHand_86 ?_
        refine aw_finI (hR _ _ dX7_nearestHand_87) ?_ ?_
        · rw [show S.1 7 = j by omega, ← hp]
        · rfl
      · exact absurd c_19 (by omega)
    | succ n ih =>
      intro j hj be le v5 v6 hv5 hp
      have hjj := hh j (by omega)
      refine aw_iload_4 hX dX7_nearestHand_10 ?_
      refine aw_aload_0 hX dX7_nearestHand_12 ?_
      refine ag_X7_flues hX fl_X7_26 dX7_nearestHand_13 ?_
      refine ag_X2_size hX fl_X7_174 dX7_nearestHand_16 ?_
      first | with_reducible refine aw_icmpgeN hX (tgt := 86) dX7_nearestHand_19 (by decide) (by omega) (by omega) (fun c_19 => ?_) (fun c_19 => ?_) | refine aw_jge hX (tgt := 86) dX7_nearestHand_19 (by decide) (fun c_19 => ?_) (fun c_19 => ?_)
      · exact absurd c_19 (by omega)
      · skip
        refine aw_aload_0 hX dX7_nearestHand_22 ?_
        refine ag_X7_flues hX fl_X7_26 dX7_nearestHand_23 ?_
        refine ag_X2_hand hX fl_X7_152 dX7_nearestHand_26 ?_
        refine aw_iload_4 hX dX7_nearestHand_29 ?_
        refine aw_iald hX dX7_nearestHand_31 rfl (by decide) (by omega) ?_
        refine aw_istore_5 hX rfl (by decide) dX7_nearestHand_32 ?_
        refine aw_aload_0 hX dX7_nearestHand_34 ?_
        refine ag_X7_flues hX fl_X7_26 dX7_nearestHand_35 ?_
        refine aw_iload_1 hX dX7_nearestHand_38 ?_
        refine aw_iload_4 hX dX7_nearestHand_39 ?_
        refine cv_X2_wayBetween hX ml_X7_277 dX7_nearestHand_41 (m_X2_wayBetween _ G S i j hi (by omega)) (Nat.le_of_ble_eq_true rfl) ?_
        refine aw_istore_6 hX rfl (by decide) dX7_nearestHand_44 ?_
        refine aw_aload_0 hX dX7_nearestHand_46 ?_
        refine ag_X7_handIsIll hX fl_X7_58 dX7_nearestHand_47 ?_
        refine aw_iload_5 hX dX7_nearestHand_50 ?_
        refine aw_ti hjj.1 ?_
        refine aw_zald hX dX7_nearestHand_52 rfl (by decide) hjj.2 ?_
        first | with_reducible refine aw_ifneB hX (tgt := 80) dX7_nearestHand_53 (by decide) (fun c_53 => ?_) (fun c_53 => ?_) | refine aw_ifne hX (tgt := 80) dX7_nearestHand_53 (by decide) (fun c_53 => ?_) (fun c_53 => ?_)
        · skip
          first | with_reducible refine aw_iinc_4N hX rfl (by decide) dX7_nearestHand_80 ?_ | refine aw_iinc_4 hX rfl (by decide) dX7_nearestHand_80 ?_
          refine aw_goto hX (tgt := 10) dX7_nearestHand_83 (by decide) ?_
          exact ih (j + 1) (by omega) _ _ _ _ rfl (by simp only [nhL, ← hp]; simp [c_19, c_53])
        · skip
          refine aw_iload_6 hX dX7_nearestHand_56 ?_
          refine aw_iload_3 hX dX7_nearestHand_58 ?_
          first | with_reducible refine aw_icmpltN hX (tgt := 74) dX7_nearestHand_59 (by decide) (by omega) (by omega) (fun c_59 => ?_) (fun c_59 => ?_) | refine aw_jlt hX (tgt := 74) dX7_nearestHand_59 (by decide) (fun c_59 => ?_) (fun c_59 => ?_)
          · skip
            refine aw_iload_5 hX dX7_nearestHand_74 ?_
            refine aw_istore_2 hX rfl (by decide) dX7_nearestHand_76 ?_
            refine aw_iload_6 hX dX7_nearestHand_77 ?_
            refine aw_istore_3 hX rfl (by decide) dX7_nearestHand_79 ?_
            first | with_reducible refine aw_iinc_4N hX rfl (by decide) dX7_nearestHand_80 ?_ | refine aw_iinc_4 hX rfl (by decide) dX7_nearestHand_80 ?_
            refine aw_goto hX (tgt := 10) dX7_nearestHand_83 (by decide) ?_
            exact ih (j + 1) (by omega) _ _ _ _ rfl (by simp only [nhL, ← hp]; simp [c_19, c_53, c_59])
          · skip
            refine aw_iload_6 hX dX7_nearestHand_62 ?_
            refine aw_iload_3 hX dX7_nearestHand_64 ?_
            first | with_reducible refine aw_icmpneN hX (tgt := 80) dX7_nearestHand_65 (by decide) (by omega) (by omega) (fun c_65 => ?_) (fun c_65 => ?_) | refine aw_icmpne hX (tgt := 80) dX7_nearestHand_65 (by decide) (fun c_65 => ?_) (fun c_65 => ?_)
            · skip
              first | with_reducible refine aw_iinc_4N hX rfl (by decide) dX7_nearestHand_80 ?_ | refine aw_iinc_4 hX rfl (by decide) dX7_nearestHand_80 ?_
              refine aw_goto hX (tgt := 10) dX7_nearestHand_83 (by decide) ?_
              exact ih (j + 1) (by omega) _ _ _ _ rfl (by simp only [nhL, ← hp]; simp [c_19, c_53, c_59, c_65])
            · skip
              refine aw_iload_5 hX dX7_nearestHand_68 ?_
              refine aw_iload_2 hX dX7_nearestHand_70 ?_
              first | with_reducible refine aw_icmpgeN hX (tgt := 80) dX7_nearestHand_71 (by decide) (by omega) (by omega) (fun c_71 => ?_) (fun c_71 => ?_) | refine aw_jge hX (tgt := 80) dX7_nearestHand_71 (by decide) (fun c_71 => ?_) (fun c_71 => ?_)
              · skip
                first | with_reducible refine aw_iinc_4N hX rfl (by decide) dX7_nearestHand_80 ?_ | refine aw_iinc_4 hX rfl (by decide) dX7_nearestHand_80 ?_
                refine aw_goto hX (tgt := 10) dX7_nearestHand_83 (by decide) ?_
                exact ih (j + 1) (by omega) _ _ _ _ rfl (by simp only [nhL, ← hp]; simp [c_19, c_53, c_59, c_65, c_71])
              · skip
                refine aw_iload_5 hX dX7_nearestHand_74 ?_
                refine aw_istore_2 hX rfl (by decide) dX7_nearestHand_76 ?_
                refine aw_iload_6 hX dX7_nearestHand_77 ?_
                refine aw_istore_3 hX rfl (by decide) dX7_nearestHand_79 ?_
                first | with_reducible refine aw_iinc_4N hX rfl (by decide) dX7_nearestHand_80 ?_ | refine aw_iinc_4 hX rfl (by decide) dX7_nearestHand_80 ?_
                refine aw_goto hX (tgt := 10) dX7_nearestHand_83 (by decide) ?_
                exact ih (j + 1) (by omega) _ _ _ _ rfl (by simp only [nhL, ← hp]; simp [c_19, c_53, c_59, c_65, c_71])
  refine aw_bipush hX (v := (-9)) (by decide) dX7_nearestHand_0 ?_
  refine aw_istore_2 hX rfl (by decide) dX7_nearestHand_2 ?_
  refine aw_ldcw hX kc_X7_276 dX7_nearestHand_3 ?_
  refine aw_ti (y := nI 1000000) (by decide) ?_
  refine aw_istore_3 hX rfl (by decide) dX7_nearestHand_6 ?_
  refine aw_iconst hX (v := nI 0) (by decide) dX7_nearestHand_7 ?_
  refine aw_istore_4 hX rfl (by decide) dX7_nearestHand_8 ?_
  exact loop (S.1 7) 0 (by omega) _ _ _ _ rfl rfl
set_option maxHeartbeats 4000000 in
set_option maxRecDepth 100000 in
theorem m_X7_doerOf (d : Nat) (G : GT) (S : St) (i : Nat) (hi : i < S.1 7) (hs : S.1 7 ≤ 12) (hh : HdOK (S.1 7) (S.2.1 26)) : rX7_doerOf G (d + 3) [.ref (gad G 0), .int (nI i)] S (some (.int (doX S i))) S := by
  refine runs_I (d := (d + 2)) (by decide) (Nat.le_of_ble_eq_true rfl) (fun X (hX : XC X G (d + 2) RX7 cX7_doerOf 4) hR => ?_)
  show AW X G 0 [.ref (gad G 0), .int (nI i), .null, .null] [] S
  have hjj := hh i hi
  refine aw_aload_0 hX dX7_doerOf_0 ?_
  refine ag_X7_flues hX fl_X7_26 dX7_doerOf_1 ?_
  refine ag_X2_hand hX fl_X7_152 dX7_doerOf_4 ?_
  refine aw_iload_1 hX dX7_doerOf_7 ?_
  refine aw_iald hX dX7_doerOf_8 rfl (by decide) (by omega) ?_
  refine aw_istore_2 hX rfl (by decide) dX7_doerOf_9 ?_
  refine aw_aload_0 hX dX7_doerOf_10 ?_
  refine ag_X7_handIsIll hX fl_X7_58 dX7_doerOf_11 ?_
  refine aw_iload_2 hX dX7_doerOf_14 ?_
  refine aw_ti hjj.1 ?_
  refine aw_zald hX dX7_doerOf_15 rfl (by decide) hjj.2 ?_
  first | with_reducible refine aw_ifneB hX (tgt := 21) dX7_doerOf_16 (by decide) (fun c_16 => ?_) (fun c_16 => ?_) | refine aw_ifne hX (tgt := 21) dX7_doerOf_16 (by decide) (fun c_16 => ?_) (fun c_16 => ?_)
  · skip
    refine aw_aload_0 hX dX7_doerOf_21 ?_
    refine aw_iload_1 hX dX7_doerOf_22 ?_
    refine cv_X7_nearestHand hX ml_X7_270 dX7_doerOf_23 (m_X7_nearestHand d G S i (by omega) hs hh) (Nat.le_of_ble_eq_true rfl) ?_
    refine aw_istore_3 hX rfl (by decide) dX7_doerOf_26 ?_
    refine aw_iload_3 hX dX7_doerOf_27 ?_
    refine aw_bipush hX (v := (-9)) (by decide) dX7_doerOf_28 ?_
    first | with_reducible refine aw_icmpneN hX (tgt := 40) dX7_doerOf_30 (by decide) (by omega) (by omega) (fun c_30 => ?_) (fun c_30 => ?_) | refine aw_icmpne hX (tgt := 40) dX7_doerOf_30 (by decide) (fun c_30 => ?_) (fun c_30 => ?_)
    · skip
      refine aw_iload_3 hX dX7_doerOf_40 ?_
      refine aw_finI (hR _ _ dX7_doerOf_41) ?_ ?_
      · simp [doX, doO, c_16, c_30]
      · rfl
    · skip
      refine aw_aload_0 hX dX7_doerOf_33 ?_
      refine cv_X7_leastHandNotIll hX ml_X7_273 dX7_doerOf_34 (m_X7_leastHandNotIll _ G S) (Nat.le_of_ble_eq_true rfl) ?_
      refine aw_goto hX (tgt := 41) dX7_doerOf_37 (by decide) ?_
      refine aw_finI (hR _ _ dX7_doerOf_41) ?_ ?_
      · simp [doX, doO, c_16, c_30]
      · rfl
  · skip
    refine aw_iload_2 hX dX7_doerOf_19 ?_
    refine aw_finI (hR _ _ dX7_doerOf_20) ?_ ?_
    · simp [doX, doO, c_16]
    · rfl
def wtX (S : St) (i w : Nat) (hand day : Int32) : Int32 := if doX S i = hand ∧ foX S i = false ∧ nI (duX S (S.2.1 20 i) w) ≤ day then nI (duX S (S.2.1 20 i) w) else -9
set_option maxHeartbeats 4000000 in
set_option maxRecDepth 100000 in
theorem m_X7_waitingSince (d : Nat) (G : GT) (S : St) (i w : Nat) (hand day : Int32) (hi : i < S.1 7) (h7 : S.1 7 ≤ 12) (h8 : S.1 8 ≤ 30) (hs : S.1 10 ≤ 100) (hh : HdOK (S.1 7) (S.2.1 26)) (hb : BkOK S) (hw : swX S i (nI (S.1 0)) = nI w) (hw5 : w ≤ 500) : rX7_waitingSince G (d + 5) [.ref (gad G 0), .int (nI i), .int hand, .int day] S (some (.int (wtX S i w hand day))) S := by
  refine runs_I (d := (d + 4)) (by decide) (Nat.le_of_ble_eq_true rfl) (fun X (hX : XC X G (d + 4) RX7 cX7_waitingSince 5) hR => ?_)
  show AW X G 0 [.ref (gad G 0), .int (nI i), .int hand, .int day, .null] [] S
  refine aw_aload_0 hX dX7_waitingSince_0 ?_
  refine aw_iload_1 hX dX7_waitingSince_1 ?_
  refine cv_X7_doerOf hX ml_X7_168 dX7_waitingSince_2 (m_X7_doerOf (d + 1) G S i hi h7 hh) (Nat.le_of_ble_eq_true rfl) ?_
  refine aw_iload_2 hX dX7_waitingSince_5 ?_
  first | with_reducible refine aw_icmpneN hX (tgt := 17) dX7_waitingSince_6 (by decide) (by omega) (by omega) (fun c_6 => ?_) (fun c_6 => ?_) | refine aw_icmpne hX (tgt := 17) dX7_waitingSince_6 (by decide) (fun c_6 => ?_) (fun c_6 => ?_)
  · skip
    refine aw_bipush hX (v := (-9)) (by decide) dX7_waitingSince_17 ?_
    refine aw_finI (hR _ _ dX7_waitingSince_19) ?_ ?_
    · simp [wtX, c_6]
    · rfl
  · skip
    refine aw_aload_0 hX dX7_waitingSince_9 ?_
    refine aw_iload_1 hX dX7_waitingSince_10 ?_
    refine cv_X7_isForbidden hX ml_X7_161 dX7_waitingSince_11 (m_X7_isForbidden (d + 2) G S i (by omega) h8) (Nat.le_of_ble_eq_true rfl) ?_
    first | with_reducible refine aw_ifeqB hX (tgt := 20) dX7_waitingSince_14 (by decide) (fun c_14 => ?_) (fun c_14 => ?_) | refine aw_ifeq hX (tgt := 20) dX7_waitingSince_14 (by decide) (fun c_14 => ?_) (fun c_14 => ?_)
    · skip
      refine aw_aload_0 hX dX7_waitingSince_20 ?_
      refine aw_iload_1 hX dX7_waitingSince_21 ?_
      refine cv_X7_dueOf hX ml_X7_171 dX7_waitingSince_22 (m_X7_dueOf d G S i w (by omega) hs hb hw hw5) (Nat.le_of_ble_eq_true rfl) ?_
      refine aw_istore_4 hX rfl (by decide) dX7_waitingSince_25 ?_
      refine aw_iload_4 hX dX7_waitingSince_27 ?_
      refine aw_iload_3 hX dX7_waitingSince_29 ?_
      first | with_reducible refine aw_icmpgtN hX (tgt := 38) dX7_waitingSince_30 (by decide) (by omega) (by omega) (fun c_30 => ?_) (fun c_30 => ?_) | refine aw_jgt hX (tgt := 38) dX7_waitingSince_30 (by decide) (fun c_30 => ?_) (fun c_30 => ?_)
      · skip
        refine aw_bipush hX (v := (-9)) (by decide) dX7_waitingSince_38 ?_
        refine aw_finI (hR _ _ dX7_waitingSince_40) ?_ ?_
        · simp [wtX, c_6, c_14, c_30]
        · rfl
      · skip
        refine aw_iload_4 hX dX7_waitingSince_33 ?_
        refine aw_goto hX (tgt := 40) dX7_waitingSince_35 (by decide) ?_
        refine aw_finI (hR _ _ dX7_waitingSince_40) ?_ ?_
        · simp [wtX, c_6, c_14, c_30]
        · rfl
    · skip
      refine aw_bipush hX (v := (-9)) (by decide) dX7_waitingSince_17 ?_
      refine aw_finI (hR _ _ dX7_waitingSince_19) ?_ ?_
      · simp [wtX, c_6, c_14]
      · rfl
end
section
theorem zz_end : True := trivial
end
