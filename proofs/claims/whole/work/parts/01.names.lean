-- ===== PART A: goes FIRST, ahead of the names: the tables' words, and 'selects' of the private methods out of them =====
/-- a private method of a class that the tables say can be made, by its rows of tables_1 -/
def lw_okq (q : MethodName × Nat) : Prop := (q.1.cls ≠ "java/lang/invoke/MethodHandle" ∧ q.1.cls ≠ "java/lang/invoke/VarHandle") ∧ Cond.instantiable q.1.cls q.2 ∈ tables_1 ∧ Cond.privateMethod q.1 ∈ tables_1 ∧ Cond.instanceMethod q.1 ∈ tables_1
theorem lw_p0 : lw_okq (⟨"ScrollTown$Hash", "spread", "(I)V"⟩, 6) := ⟨⟨by decide +kernel, by decide +kernel⟩, List.mem_of_getElem? (i := 17) (by decide +kernel), List.mem_of_getElem? (i := 260) (by decide +kernel), List.mem_of_getElem? (i := 261) (by decide +kernel)⟩
theorem lw_p1 : lw_okq (⟨"ScrollTown$Hash", "mix", "()V"⟩, 6) := ⟨⟨by decide +kernel, by decide +kernel⟩, List.mem_of_getElem? (i := 17) (by decide +kernel), List.mem_of_getElem? (i := 267) (by decide +kernel), List.mem_of_getElem? (i := 268) (by decide +kernel)⟩
theorem lw_p2 : lw_okq (⟨"ScrollTown$Hash", "addBytes", "([BII)V"⟩, 6) := ⟨⟨by decide +kernel, by decide +kernel⟩, List.mem_of_getElem? (i := 17) (by decide +kernel), List.mem_of_getElem? (i := 278) (by decide +kernel), List.mem_of_getElem? (i := 279) (by decide +kernel)⟩
theorem lw_p3 : lw_okq (⟨"ScrollTown$Hash", "beginWithKey", "([BI)V"⟩, 6) := ⟨⟨by decide +kernel, by decide +kernel⟩, List.mem_of_getElem? (i := 17) (by decide +kernel), List.mem_of_getElem? (i := 305) (by decide +kernel), List.mem_of_getElem? (i := 306) (by decide +kernel)⟩
theorem lw_p4 : lw_okq (⟨"ScrollTown", "scrollOf", "(I)LScrollTown$Scroll;"⟩, 12) := ⟨⟨by decide +kernel, by decide +kernel⟩, List.mem_of_getElem? (i := 9) (by decide +kernel), List.mem_of_getElem? (i := 314) (by decide +kernel), List.mem_of_getElem? (i := 315) (by decide +kernel)⟩
theorem lw_p5 : lw_okq (⟨"ScrollTown", "meterOf", "(I)LScrollTown$Meter;"⟩, 12) := ⟨⟨by decide +kernel, by decide +kernel⟩, List.mem_of_getElem? (i := 9) (by decide +kernel), List.mem_of_getElem? (i := 318) (by decide +kernel), List.mem_of_getElem? (i := 319) (by decide +kernel)⟩
theorem lw_p6 : lw_okq (⟨"ScrollTown$Meter", "isCodeBy", "([B[BLScrollTown$Hash;)Z"⟩, 11) := ⟨⟨by decide +kernel, by decide +kernel⟩, List.mem_of_getElem? (i := 52) (by decide +kernel), List.mem_of_getElem? (i := 326) (by decide +kernel), List.mem_of_getElem? (i := 327) (by decide +kernel)⟩
theorem lw_p7 : lw_okq (⟨"ScrollTown$Meter", "keepCoin", "(I[BI)V"⟩, 11) := ⟨⟨by decide +kernel, by decide +kernel⟩, List.mem_of_getElem? (i := 52) (by decide +kernel), List.mem_of_getElem? (i := 348) (by decide +kernel), List.mem_of_getElem? (i := 349) (by decide +kernel)⟩
theorem lw_p8 : lw_okq (⟨"ScrollTown", "hand", "(LScrollTown$Scroll;LScrollTown$Meter;I[BII)I"⟩, 12) := ⟨⟨by decide +kernel, by decide +kernel⟩, List.mem_of_getElem? (i := 9) (by decide +kernel), List.mem_of_getElem? (i := 370) (by decide +kernel), List.mem_of_getElem? (i := 371) (by decide +kernel)⟩
theorem lw_p9 : lw_okq (⟨"ScrollTown", "readOut", "(LScrollTown$Meter;LScrollTown$Scroll;)V"⟩, 12) := ⟨⟨by decide +kernel, by decide +kernel⟩, List.mem_of_getElem? (i := 9) (by decide +kernel), List.mem_of_getElem? (i := 413) (by decide +kernel), List.mem_of_getElem? (i := 414) (by decide +kernel)⟩
theorem lw_p10 : lw_okq (⟨"ScrollTown", "giveBack", "(LScrollTown$Scroll;)V"⟩, 12) := ⟨⟨by decide +kernel, by decide +kernel⟩, List.mem_of_getElem? (i := 9) (by decide +kernel), List.mem_of_getElem? (i := 434) (by decide +kernel), List.mem_of_getElem? (i := 435) (by decide +kernel)⟩
theorem lw_p11 : lw_okq (⟨"ScrollTown", "inAllPurses", "()J"⟩, 12) := ⟨⟨by decide +kernel, by decide +kernel⟩, List.mem_of_getElem? (i := 9) (by decide +kernel), List.mem_of_getElem? (i := 442) (by decide +kernel), List.mem_of_getElem? (i := 443) (by decide +kernel)⟩
theorem lw_p12 : lw_okq (⟨"ScrollTown", "onAllLists", "()I"⟩, 12) := ⟨⟨by decide +kernel, by decide +kernel⟩, List.mem_of_getElem? (i := 9) (by decide +kernel), List.mem_of_getElem? (i := 463) (by decide +kernel), List.mem_of_getElem? (i := 464) (by decide +kernel)⟩
theorem lw_p13 : lw_okq (⟨"ScrollTown", "blockedScrolls", "()I"⟩, 12) := ⟨⟨by decide +kernel, by decide +kernel⟩, List.mem_of_getElem? (i := 9) (by decide +kernel), List.mem_of_getElem? (i := 467) (by decide +kernel), List.mem_of_getElem? (i := 468) (by decide +kernel)⟩
theorem lw_p14 : lw_okq (⟨"ScrollTown", "closedScrolls", "()I"⟩, 12) := ⟨⟨by decide +kernel, by decide +kernel⟩, List.mem_of_getElem? (i := 9) (by decide +kernel), List.mem_of_getElem? (i := 471) (by decide +kernel), List.mem_of_getElem? (i := 472) (by decide +kernel)⟩
theorem lw_p15 : lw_okq (⟨"ScrollTownModel", "primes", "()V"⟩, 45) := ⟨⟨by decide +kernel, by decide +kernel⟩, List.mem_of_getElem? (i := 475) (by decide +kernel), List.mem_of_getElem? (i := 481) (by decide +kernel), List.mem_of_getElem? (i := 482) (by decide +kernel)⟩
def lw_privs_1 : List (MethodName × Nat) := [(⟨"ScrollTown$Hash", "spread", "(I)V"⟩, 6), (⟨"ScrollTown$Hash", "mix", "()V"⟩, 6), (⟨"ScrollTown$Hash", "addBytes", "([BII)V"⟩, 6), (⟨"ScrollTown$Hash", "beginWithKey", "([BI)V"⟩, 6), (⟨"ScrollTown", "scrollOf", "(I)LScrollTown$Scroll;"⟩, 12), (⟨"ScrollTown", "meterOf", "(I)LScrollTown$Meter;"⟩, 12), (⟨"ScrollTown$Meter", "isCodeBy", "([B[BLScrollTown$Hash;)Z"⟩, 11), (⟨"ScrollTown$Meter", "keepCoin", "(I[BI)V"⟩, 11), (⟨"ScrollTown", "hand", "(LScrollTown$Scroll;LScrollTown$Meter;I[BII)I"⟩, 12), (⟨"ScrollTown", "readOut", "(LScrollTown$Meter;LScrollTown$Scroll;)V"⟩, 12), (⟨"ScrollTown", "giveBack", "(LScrollTown$Scroll;)V"⟩, 12), (⟨"ScrollTown", "inAllPurses", "()J"⟩, 12), (⟨"ScrollTown", "onAllLists", "()I"⟩, 12), (⟨"ScrollTown", "blockedScrolls", "()I"⟩, 12), (⟨"ScrollTown", "closedScrolls", "()I"⟩, 12), (⟨"ScrollTownModel", "primes", "()V"⟩, 45)]
theorem lw_r1 : ∀ q ∈ lw_privs_1, lw_okq q := List.forall_mem_cons.mpr ⟨lw_p0, List.forall_mem_cons.mpr ⟨lw_p1, List.forall_mem_cons.mpr ⟨lw_p2, List.forall_mem_cons.mpr ⟨lw_p3, List.forall_mem_cons.mpr ⟨lw_p4, List.forall_mem_cons.mpr ⟨lw_p5, List.forall_mem_cons.mpr ⟨lw_p6, List.forall_mem_cons.mpr ⟨lw_p7, List.forall_mem_cons.mpr ⟨lw_p8, List.forall_mem_cons.mpr ⟨lw_p9, List.forall_mem_cons.mpr ⟨lw_p10, List.forall_mem_cons.mpr ⟨lw_p11, List.forall_mem_cons.mpr ⟨lw_p12, List.forall_mem_cons.mpr ⟨lw_p13, List.forall_mem_cons.mpr ⟨lw_p14, List.forall_mem_cons.mpr ⟨lw_p15, fun _ h => absurd h List.not_mem_nil⟩⟩⟩⟩⟩⟩⟩⟩⟩⟩⟩⟩⟩⟩⟩⟩
theorem lw_p16 : lw_okq (⟨"ScrollTownModel", "four", "(IIIII)V"⟩, 45) := ⟨⟨by decide +kernel, by decide +kernel⟩, List.mem_of_getElem? (i := 475) (by decide +kernel), List.mem_of_getElem? (i := 489) (by decide +kernel), List.mem_of_getElem? (i := 490) (by decide +kernel)⟩
theorem lw_p17 : lw_okq (⟨"ScrollTownModel", "isPair", "(II)Z"⟩, 45) := ⟨⟨by decide +kernel, by decide +kernel⟩, List.mem_of_getElem? (i := 475) (by decide +kernel), List.mem_of_getElem? (i := 722) (by decide +kernel), List.mem_of_getElem? (i := 723) (by decide +kernel)⟩
theorem lw_p18 : lw_okq (⟨"ScrollTownModel", "knows", "(II)Z"⟩, 45) := ⟨⟨by decide +kernel, by decide +kernel⟩, List.mem_of_getElem? (i := 475) (by decide +kernel), List.mem_of_getElem? (i := 726) (by decide +kernel), List.mem_of_getElem? (i := 727) (by decide +kernel)⟩
theorem lw_p19 : lw_okq (⟨"ScrollTownModel", "letterOf", "(I)V"⟩, 45) := ⟨⟨by decide +kernel, by decide +kernel⟩, List.mem_of_getElem? (i := 475) (by decide +kernel), List.mem_of_getElem? (i := 730) (by decide +kernel), List.mem_of_getElem? (i := 731) (by decide +kernel)⟩
theorem lw_p20 : lw_okq (⟨"ScrollTownModel", "number", "(III)V"⟩, 45) := ⟨⟨by decide +kernel, by decide +kernel⟩, List.mem_of_getElem? (i := 475) (by decide +kernel), List.mem_of_getElem? (i := 734) (by decide +kernel), List.mem_of_getElem? (i := 735) (by decide +kernel)⟩
theorem lw_p21 : lw_okq (⟨"ScrollTownModel", "coinOf", "(II)V"⟩, 45) := ⟨⟨by decide +kernel, by decide +kernel⟩, List.mem_of_getElem? (i := 475) (by decide +kernel), List.mem_of_getElem? (i := 738) (by decide +kernel), List.mem_of_getElem? (i := 739) (by decide +kernel)⟩
theorem lw_p22 : lw_okq (⟨"ScrollTownModel", "hash", "(I)V"⟩, 45) := ⟨⟨by decide +kernel, by decide +kernel⟩, List.mem_of_getElem? (i := 475) (by decide +kernel), List.mem_of_getElem? (i := 742) (by decide +kernel), List.mem_of_getElem? (i := 743) (by decide +kernel)⟩
theorem lw_p23 : lw_okq (⟨"ScrollTownModel", "block", "(I)V"⟩, 45) := ⟨⟨by decide +kernel, by decide +kernel⟩, List.mem_of_getElem? (i := 475) (by decide +kernel), List.mem_of_getElem? (i := 746) (by decide +kernel), List.mem_of_getElem? (i := 747) (by decide +kernel)⟩
theorem lw_p24 : lw_okq (⟨"ScrollTownModel", "cut", "()V"⟩, 45) := ⟨⟨by decide +kernel, by decide +kernel⟩, List.mem_of_getElem? (i := 475) (by decide +kernel), List.mem_of_getElem? (i := 753) (by decide +kernel), List.mem_of_getElem? (i := 754) (by decide +kernel)⟩
theorem lw_p25 : lw_okq (⟨"ScrollTownModel", "hashed", "()V"⟩, 45) := ⟨⟨by decide +kernel, by decide +kernel⟩, List.mem_of_getElem? (i := 475) (by decide +kernel), List.mem_of_getElem? (i := 757) (by decide +kernel), List.mem_of_getElem? (i := 758) (by decide +kernel)⟩
theorem lw_p26 : lw_okq (⟨"ScrollTownModel", "coinToRow", "()V"⟩, 45) := ⟨⟨by decide +kernel, by decide +kernel⟩, List.mem_of_getElem? (i := 475) (by decide +kernel), List.mem_of_getElem? (i := 761) (by decide +kernel), List.mem_of_getElem? (i := 762) (by decide +kernel)⟩
theorem lw_p27 : lw_okq (⟨"ScrollTownModel", "headed", "(I)V"⟩, 45) := ⟨⟨by decide +kernel, by decide +kernel⟩, List.mem_of_getElem? (i := 475) (by decide +kernel), List.mem_of_getElem? (i := 765) (by decide +kernel), List.mem_of_getElem? (i := 766) (by decide +kernel)⟩
theorem lw_p28 : lw_okq (⟨"ScrollTownModel", "codeBy", "(JJ)V"⟩, 45) := ⟨⟨by decide +kernel, by decide +kernel⟩, List.mem_of_getElem? (i := 475) (by decide +kernel), List.mem_of_getElem? (i := 769) (by decide +kernel), List.mem_of_getElem? (i := 770) (by decide +kernel)⟩
theorem lw_p29 : lw_okq (⟨"ScrollTownModel", "keyToRow", "(JJI)V"⟩, 45) := ⟨⟨by decide +kernel, by decide +kernel⟩, List.mem_of_getElem? (i := 475) (by decide +kernel), List.mem_of_getElem? (i := 773) (by decide +kernel), List.mem_of_getElem? (i := 774) (by decide +kernel)⟩
theorem lw_p30 : lw_okq (⟨"ScrollTownModel", "lists", "(I)I"⟩, 45) := ⟨⟨by decide +kernel, by decide +kernel⟩, List.mem_of_getElem? (i := 475) (by decide +kernel), List.mem_of_getElem? (i := 777) (by decide +kernel), List.mem_of_getElem? (i := 778) (by decide +kernel)⟩
theorem lw_p31 : lw_okq (⟨"ScrollTownModel", "stays", "(I)Z"⟩, 45) := ⟨⟨by decide +kernel, by decide +kernel⟩, List.mem_of_getElem? (i := 475) (by decide +kernel), List.mem_of_getElem? (i := 781) (by decide +kernel), List.mem_of_getElem? (i := 782) (by decide +kernel)⟩
def lw_privs_2 : List (MethodName × Nat) := [(⟨"ScrollTownModel", "four", "(IIIII)V"⟩, 45), (⟨"ScrollTownModel", "isPair", "(II)Z"⟩, 45), (⟨"ScrollTownModel", "knows", "(II)Z"⟩, 45), (⟨"ScrollTownModel", "letterOf", "(I)V"⟩, 45), (⟨"ScrollTownModel", "number", "(III)V"⟩, 45), (⟨"ScrollTownModel", "coinOf", "(II)V"⟩, 45), (⟨"ScrollTownModel", "hash", "(I)V"⟩, 45), (⟨"ScrollTownModel", "block", "(I)V"⟩, 45), (⟨"ScrollTownModel", "cut", "()V"⟩, 45), (⟨"ScrollTownModel", "hashed", "()V"⟩, 45), (⟨"ScrollTownModel", "coinToRow", "()V"⟩, 45), (⟨"ScrollTownModel", "headed", "(I)V"⟩, 45), (⟨"ScrollTownModel", "codeBy", "(JJ)V"⟩, 45), (⟨"ScrollTownModel", "keyToRow", "(JJI)V"⟩, 45), (⟨"ScrollTownModel", "lists", "(I)I"⟩, 45), (⟨"ScrollTownModel", "stays", "(I)Z"⟩, 45)]
theorem lw_r2 : ∀ q ∈ lw_privs_2, lw_okq q := List.forall_mem_cons.mpr ⟨lw_p16, List.forall_mem_cons.mpr ⟨lw_p17, List.forall_mem_cons.mpr ⟨lw_p18, List.forall_mem_cons.mpr ⟨lw_p19, List.forall_mem_cons.mpr ⟨lw_p20, List.forall_mem_cons.mpr ⟨lw_p21, List.forall_mem_cons.mpr ⟨lw_p22, List.forall_mem_cons.mpr ⟨lw_p23, List.forall_mem_cons.mpr ⟨lw_p24, List.forall_mem_cons.mpr ⟨lw_p25, List.forall_mem_cons.mpr ⟨lw_p26, List.forall_mem_cons.mpr ⟨lw_p27, List.forall_mem_cons.mpr ⟨lw_p28, List.forall_mem_cons.mpr ⟨lw_p29, List.forall_mem_cons.mpr ⟨lw_p30, List.forall_mem_cons.mpr ⟨lw_p31, fun _ h => absurd h List.not_mem_nil⟩⟩⟩⟩⟩⟩⟩⟩⟩⟩⟩⟩⟩⟩⟩⟩
theorem lw_p32 : lw_okq (⟨"ScrollTownModel", "answers", "(III)I"⟩, 45) := ⟨⟨by decide +kernel, by decide +kernel⟩, List.mem_of_getElem? (i := 475) (by decide +kernel), List.mem_of_getElem? (i := 789) (by decide +kernel), List.mem_of_getElem? (i := 790) (by decide +kernel)⟩
theorem lw_p33 : lw_okq (⟨"ScrollTownModel", "takes", "(IIIIZ)I"⟩, 45) := ⟨⟨by decide +kernel, by decide +kernel⟩, List.mem_of_getElem? (i := 475) (by decide +kernel), List.mem_of_getElem? (i := 793) (by decide +kernel), List.mem_of_getElem? (i := 794) (by decide +kernel)⟩
def lw_privs_3 : List (MethodName × Nat) := [(⟨"ScrollTownModel", "answers", "(III)I"⟩, 45), (⟨"ScrollTownModel", "takes", "(IIIIZ)I"⟩, 45)]
theorem lw_r3 : ∀ q ∈ lw_privs_3, lw_okq q := List.forall_mem_cons.mpr ⟨lw_p32, List.forall_mem_cons.mpr ⟨lw_p33, fun _ h => absurd h List.not_mem_nil⟩⟩
def lw_privs : List (MethodName × Nat) := lw_privs_1 ++ (lw_privs_2 ++ (lw_privs_3))
def lw_tbl : List Cond := k2_sels lw_privs ++ tables_1
theorem lw_privs_ok : ∀ q ∈ lw_privs, lw_okq q := by
  show ∀ q ∈ lw_privs_1 ++ (lw_privs_2 ++ (lw_privs_3)), lw_okq q
  exact List.forall_mem_append.mpr ⟨lw_r1, List.forall_mem_append.mpr ⟨lw_r2, lw_r3⟩⟩
-- ===== end of PART A; then your names; then what follows =====

/-! NAMES, by program out of the task: classes, fields, methods, words by their places in the tables -/
def RX0 : String := "ScrollTown$Hash"
def TX0 : u_T := fun k => match k with
  | 0 => ("ScrollTown$Hash", "code", "[B", true)
  | 1 => ("ScrollTown$Hash", "coin", "[B", true)
  | 2 => ("ScrollTown$Hash", "row", "[B", true)
  | 3 => ("ScrollTown$Hash", "length", "I", false)
  | 4 => ("ScrollTown$Hash", "words", "[I", true)
  | _ => ("ScrollTown$Hash", "sums", "[I", true)
def tyX0 : Nat → FieldType := fun k => match k with
  | 0 => .array .byte
  | 1 => .array .byte
  | 2 => .array .byte
  | 3 => .int
  | 4 => .array .int
  | _ => .array .int
theorem nX0 : ∀ a, a < 6 → ∀ b, b < 6 → a ≠ b → (TX0 a).2.1 ≠ (TX0 b).2.1 := by decide +kernel
theorem tyX0_ok : ∀ k, k < 6 → parseFieldDescriptor (TX0 k).2.2.1 = some (tyX0 k) := by decide +kernel
def RX1 : String := "ScrollTown$Meter"
def TX1 : u_T := fun k => match k with
  | 0 => ("ScrollTown$Meter", "number", "I", true)
  | 1 => ("ScrollTown$Meter", "key", "[B", true)
  | 2 => ("ScrollTown$Meter", "keyBefore", "[B", true)
  | 3 => ("ScrollTown$Meter", "keys", "I", false)
  | 4 => ("ScrollTown$Meter", "blocked", "[Z", true)
  | 5 => ("ScrollTown$Meter", "onList", "[Z", true)
  | 6 => ("ScrollTown$Meter", "listed", "I", false)
  | 7 => ("ScrollTown$Meter", "indexes", "[I", true)
  | 8 => ("ScrollTown$Meter", "lastCoins", "[B", true)
  | 9 => ("ScrollTown$Meter", "minutesOf", "[I", true)
  | _ => ("ScrollTown$Meter", "writes", "I", false)
def tyX1 : Nat → FieldType := fun k => match k with
  | 0 => .int
  | 1 => .array .byte
  | 2 => .array .byte
  | 3 => .int
  | 4 => .array .boolean
  | 5 => .array .boolean
  | 6 => .int
  | 7 => .array .int
  | 8 => .array .byte
  | 9 => .array .int
  | _ => .int
theorem nX1 : ∀ a, a < 11 → ∀ b, b < 11 → a ≠ b → (TX1 a).2.1 ≠ (TX1 b).2.1 := by decide +kernel
theorem tyX1_ok : ∀ k, k < 11 → parseFieldDescriptor (TX1 k).2.2.1 = some (tyX1 k) := by decide +kernel
def RX2 : String := "ScrollTown$Scroll"
def TX2 : u_T := fun k => match k with
  | 0 => ("ScrollTown$Scroll", "number", "I", true)
  | 1 => ("ScrollTown$Scroll", "owner", "I", true)
  | 2 => ("ScrollTown$Scroll", "n", "I", true)
  | 3 => ("ScrollTown$Scroll", "cents", "I", true)
  | 4 => ("ScrollTown$Scroll", "set", "I", true)
  | 5 => ("ScrollTown$Scroll", "end", "I", true)
  | 6 => ("ScrollTown$Scroll", "coins", "[B", true)
  | 7 => ("ScrollTown$Scroll", "letter", "[B", true)
  | 8 => ("ScrollTown$Scroll", "read", "[I", true)
  | 9 => ("ScrollTown$Scroll", "settled", "[I", true)
  | 10 => ("ScrollTown$Scroll", "gone", "I", false)
  | 11 => ("ScrollTown$Scroll", "overspentCoins", "I", false)
  | 12 => ("ScrollTown$Scroll", "blocked", "Z", false)
  | _ => ("ScrollTown$Scroll", "closed", "Z", false)
def tyX2 : Nat → FieldType := fun k => match k with
  | 0 => .int
  | 1 => .int
  | 2 => .int
  | 3 => .int
  | 4 => .int
  | 5 => .int
  | 6 => .array .byte
  | 7 => .array .byte
  | 8 => .array .int
  | 9 => .array .int
  | 10 => .int
  | 11 => .int
  | 12 => .boolean
  | _ => .boolean
theorem nX2 : ∀ a, a < 14 → ∀ b, b < 14 → a ≠ b → (TX2 a).2.1 ≠ (TX2 b).2.1 := by decide +kernel
theorem tyX2_ok : ∀ k, k < 14 → parseFieldDescriptor (TX2 k).2.2.1 = some (tyX2 k) := by decide +kernel
def RX3 : String := "ScrollTown"
def TX3 : u_T := fun k => match k with
  | 0 => ("ScrollTown", "hash", "LScrollTown$Hash;", true)
  | 1 => ("ScrollTown", "purses", "[J", true)
  | 2 => ("ScrollTown", "scrolls", "[LScrollTown$Scroll;", true)
  | 3 => ("ScrollTown", "meters", "[LScrollTown$Meter;", true)
  | 4 => ("ScrollTown", "buffer", "[B", true)
  | 5 => ("ScrollTown", "key", "[B", true)
  | 6 => ("ScrollTown", "keyBefore", "[B", true)
  | 7 => ("ScrollTown", "week", "I", false)
  | 8 => ("ScrollTown", "day", "I", false)
  | 9 => ("ScrollTown", "bought", "I", false)
  | 10 => ("ScrollTown", "floatCents", "J", false)
  | _ => ("ScrollTown", "townCents", "J", false)
def tyX3 : Nat → FieldType := fun k => match k with
  | 0 => .object "ScrollTown$Hash"
  | 1 => .array .long
  | 2 => .array (.object "ScrollTown$Scroll")
  | 3 => .array (.object "ScrollTown$Meter")
  | 4 => .array .byte
  | 5 => .array .byte
  | 6 => .array .byte
  | 7 => .int
  | 8 => .int
  | 9 => .int
  | 10 => .long
  | _ => .long
theorem nX3 : ∀ a, a < 12 → ∀ b, b < 12 → a ≠ b → (TX3 a).2.1 ≠ (TX3 b).2.1 := by decide +kernel
theorem tyX3_ok : ∀ k, k < 12 → parseFieldDescriptor (TX3 k).2.2.1 = some (tyX3 k) := by decide +kernel
def RX4 : String := "ScrollTownModel"
def TX4 : u_T := fun k => match k with
  | 0 => ("ScrollTownModel", "thrown", "I", false)
  | 1 => ("ScrollTownModel", "cubes", "[I", true)
  | 2 => ("ScrollTownModel", "squares", "[I", true)
  | 3 => ("ScrollTownModel", "row", "[B", true)
  | 4 => ("ScrollTownModel", "w", "[I", true)
  | 5 => ("ScrollTownModel", "h", "[I", true)
  | 6 => ("ScrollTownModel", "now", "[I", true)
  | 7 => ("ScrollTownModel", "hash", "[B", true)
  | 8 => ("ScrollTownModel", "coin", "[B", true)
  | 9 => ("ScrollTownModel", "code", "[B", true)
  | 10 => ("ScrollTownModel", "letter", "[B", true)
  | 11 => ("ScrollTownModel", "buffer", "[B", true)
  | 12 => ("ScrollTownModel", "day", "I", false)
  | 13 => ("ScrollTownModel", "purses", "[J", true)
  | 14 => ("ScrollTownModel", "kept", "J", false)
  | 15 => ("ScrollTownModel", "town", "J", false)
  | 16 => ("ScrollTownModel", "week", "I", false)
  | 17 => ("ScrollTownModel", "keyOne", "J", false)
  | 18 => ("ScrollTownModel", "keyTwo", "J", false)
  | 19 => ("ScrollTownModel", "oldOne", "J", false)
  | 20 => ("ScrollTownModel", "oldTwo", "J", false)
  | 21 => ("ScrollTownModel", "scrolls", "I", false)
  | 22 => ("ScrollTownModel", "owner", "[I", true)
  | 23 => ("ScrollTownModel", "coins", "[I", true)
  | 24 => ("ScrollTownModel", "cents", "[I", true)
  | 25 => ("ScrollTownModel", "sets", "[I", true)
  | 26 => ("ScrollTownModel", "seeds", "[J", true)
  | 27 => ("ScrollTownModel", "ends", "[I", true)
  | 28 => ("ScrollTownModel", "withOne", "[J", true)
  | 29 => ("ScrollTownModel", "withTwo", "[J", true)
  | 30 => ("ScrollTownModel", "gone", "[I", true)
  | 31 => ("ScrollTownModel", "over", "[I", true)
  | 32 => ("ScrollTownModel", "blocked", "[Z", true)
  | 33 => ("ScrollTownModel", "closed", "[Z", true)
  | 34 => ("ScrollTownModel", "read", "[I", true)
  | 35 => ("ScrollTownModel", "settled", "[I", true)
  | 36 => ("ScrollTownModel", "keys", "[I", true)
  | 37 => ("ScrollTownModel", "meterOne", "[J", true)
  | 38 => ("ScrollTownModel", "meterTwo", "[J", true)
  | 39 => ("ScrollTownModel", "barred", "[I", true)
  | 40 => ("ScrollTownModel", "writes", "[I", true)
  | 41 => ("ScrollTownModel", "listed", "[Z", true)
  | 42 => ("ScrollTownModel", "index", "[I", true)
  | 43 => ("ScrollTownModel", "last", "[B", true)
  | _ => ("ScrollTownModel", "minutes", "[I", true)
def tyX4 : Nat → FieldType := fun k => match k with
  | 0 => .int
  | 1 => .array .int
  | 2 => .array .int
  | 3 => .array .byte
  | 4 => .array .int
  | 5 => .array .int
  | 6 => .array .int
  | 7 => .array .byte
  | 8 => .array .byte
  | 9 => .array .byte
  | 10 => .array .byte
  | 11 => .array .byte
  | 12 => .int
  | 13 => .array .long
  | 14 => .long
  | 15 => .long
  | 16 => .int
  | 17 => .long
  | 18 => .long
  | 19 => .long
  | 20 => .long
  | 21 => .int
  | 22 => .array .int
  | 23 => .array .int
  | 24 => .array .int
  | 25 => .array .int
  | 26 => .array .long
  | 27 => .array .int
  | 28 => .array .long
  | 29 => .array .long
  | 30 => .array .int
  | 31 => .array .int
  | 32 => .array .boolean
  | 33 => .array .boolean
  | 34 => .array .int
  | 35 => .array .int
  | 36 => .array .int
  | 37 => .array .long
  | 38 => .array .long
  | 39 => .array .int
  | 40 => .array .int
  | 41 => .array .boolean
  | 42 => .array .int
  | 43 => .array .byte
  | _ => .array .int
theorem nX4 : ∀ a, a < 45 → ∀ b, b < 45 → a ≠ b → (TX4 a).2.1 ≠ (TX4 b).2.1 := by decide +kernel
theorem tyX4_ok : ∀ k, k < 45 → parseFieldDescriptor (TX4 k).2.2.1 = some (tyX4 k) := by decide +kernel
def RL : String := "ScrollTownLaw"
abbrev vwCl : List vw_C := [(RX0, TX0, 6), (RX1, TX1, 11), (RX2, TX2, 14), (RX3, TX3, 12), (RX4, TX4, 45)]
abbrev cX3_init : ByteArray := prog_1_method_1_code
def yX3_init : MethodName := ⟨RX3, "<init>", "()V"⟩
abbrev cX0_init : ByteArray := prog_2_method_1_code
def yX0_init : MethodName := ⟨RX0, "<init>", "()V"⟩
abbrev cX1_init : ByteArray := prog_3_method_1_code
def yX1_init : MethodName := ⟨RX1, "<init>", "(I)V"⟩
abbrev cX3_newWeek : ByteArray := prog_1_method_2_code
def yX3_newWeek : MethodName := ⟨RX3, "newWeek", "(JJ)I"⟩
abbrev cX3_writeNumber : ByteArray := prog_1_method_32_code
def yX3_writeNumber : MethodName := ⟨RX3, "writeNumber", "([BIIJ)V"⟩
abbrev cX3_today : ByteArray := prog_1_method_3_code
def yX3_today : MethodName := ⟨RX3, "today", "(I)Z"⟩
abbrev cX1_forgetMinutes : ByteArray := prog_3_method_2_code
def yX1_forgetMinutes : MethodName := ⟨RX1, "forgetMinutes", "()V"⟩
abbrev cX3_money : ByteArray := prog_1_method_4_code
def yX3_money : MethodName := ⟨RX3, "money", "(IJ)Z"⟩
abbrev cX3_isMotorist : ByteArray := prog_1_method_29_code
def yX3_isMotorist : MethodName := ⟨RX3, "isMotorist", "(I)Z"⟩
abbrev cX3_isWithin : ByteArray := prog_1_method_31_code
def yX3_isWithin : MethodName := ⟨RX3, "isWithin", "(III)Z"⟩
abbrev cX3_buy : ByteArray := prog_1_method_5_code
def yX3_buy : MethodName := ⟨RX3, "buy", "(IIIIJI)I"⟩
abbrev cX2_init : ByteArray := prog_4_method_1_code
def yX2_init : MethodName := ⟨RX2, "<init>", "(IIIIII)V"⟩
abbrev cX2_mint : ByteArray := prog_4_method_6_code
def yX2_mint : MethodName := ⟨RX2, "mint", "(JLScrollTown$Hash;)V"⟩
abbrev cX0_begin : ByteArray := prog_2_method_6_code
def yX0_begin : MethodName := ⟨RX0, "begin", "()V"⟩
abbrev cX0_addNumber : ByteArray := prog_2_method_7_code
def yX0_addNumber : MethodName := ⟨RX0, "addNumber", "(JI)V"⟩
abbrev cX2_coinAt : ByteArray := prog_4_method_3_code
def yX2_coinAt : MethodName := ⟨RX2, "coinAt", "(I)I"⟩
abbrev cX0_finish : ByteArray := prog_2_method_9_code
def yX0_finish : MethodName := ⟨RX0, "finish", "([BII)V"⟩
abbrev cX0_spread : ByteArray := prog_2_method_10_code
def yX0_spread : MethodName := ⟨RX0, "spread", "(I)V"⟩
abbrev cX0_rot : ByteArray := prog_2_method_12_code
def yX0_rot : MethodName := ⟨RX0, "rot", "(II)I"⟩
abbrev cX0_mix : ByteArray := prog_2_method_11_code
def yX0_mix : MethodName := ⟨RX0, "mix", "()V"⟩
abbrev cX0_cut : ByteArray := prog_2_method_2_code
def yX0_cut : MethodName := ⟨RX0, "cut", "([BI[BI)V"⟩
abbrev cX0_addBytes : ByteArray := prog_2_method_8_code
def yX0_addBytes : MethodName := ⟨RX0, "addBytes", "([BII)V"⟩
abbrev cX2_write : ByteArray := prog_4_method_7_code
def yX2_write : MethodName := ⟨RX2, "write", "([BLScrollTown$Hash;)V"⟩
abbrev cX2_isFor : ByteArray := prog_4_method_4_code
def yX2_isFor : MethodName := ⟨RX2, "isFor", "(I)Z"⟩
abbrev cX2_headAt : ByteArray := prog_4_method_8_code
def yX2_headAt : MethodName := ⟨RX2, "headAt", "(I)I"⟩
abbrev cX0_cutToHead : ByteArray := prog_2_method_3_code
def yX0_cutToHead : MethodName := ⟨RX0, "cutToHead", "([BII[BI)V"⟩
abbrev cX0_makeCode : ByteArray := prog_2_method_4_code
def yX0_makeCode : MethodName := ⟨RX0, "makeCode", "([B[BI)V"⟩
abbrev cX0_beginWithKey : ByteArray := prog_2_method_5_code
def yX0_beginWithKey : MethodName := ⟨RX0, "beginWithKey", "([BI)V"⟩
abbrev cX3_insert : ByteArray := prog_1_method_6_code
def yX3_insert : MethodName := ⟨RX3, "insert", "(II)I"⟩
abbrev cX3_scrollOf : ByteArray := prog_1_method_27_code
def yX3_scrollOf : MethodName := ⟨RX3, "scrollOf", "(I)LScrollTown$Scroll;"⟩
abbrev cX3_meterOf : ByteArray := prog_1_method_28_code
def yX3_meterOf : MethodName := ⟨RX3, "meterOf", "(I)LScrollTown$Meter;"⟩
abbrev cX1_refusal : ByteArray := prog_3_method_3_code
def yX1_refusal : MethodName := ⟨RX1, "refusal", "(LScrollTown$Scroll;ILScrollTown$Hash;)I"⟩
abbrev cX1_isCodeBy : ByteArray := prog_3_method_4_code
def yX1_isCodeBy : MethodName := ⟨RX1, "isCodeBy", "([B[BLScrollTown$Hash;)Z"⟩
abbrev cX3_sameBytes : ByteArray := prog_1_method_33_code
def yX3_sameBytes : MethodName := ⟨RX3, "sameBytes", "([BI[BII)Z"⟩
abbrev cX2_isOver : ByteArray := prog_4_method_5_code
def yX2_isOver : MethodName := ⟨RX2, "isOver", "(I)Z"⟩
abbrev cX1_powerLasts : ByteArray := prog_3_method_5_code
def yX1_powerLasts : MethodName := ⟨RX1, "powerLasts", "()Z"⟩
abbrev cX1_enlist : ByteArray := prog_3_method_6_code
def yX1_enlist : MethodName := ⟨RX1, "enlist", "(LScrollTown$Scroll;)V"⟩
abbrev cX1_keepCoin : ByteArray := prog_3_method_12_code
def yX1_keepCoin : MethodName := ⟨RX1, "keepCoin", "(I[BI)V"⟩
abbrev cX3_pay : ByteArray := prog_1_method_7_code
def yX3_pay : MethodName := ⟨RX3, "pay", "(IIII)I"⟩
abbrev cX3_isPlate : ByteArray := prog_1_method_30_code
def yX3_isPlate : MethodName := ⟨RX3, "isPlate", "(I)Z"⟩
abbrev cX1_honours : ByteArray := prog_3_method_8_code
def yX1_honours : MethodName := ⟨RX1, "honours", "(LScrollTown$Scroll;I)Z"⟩
abbrev cX2_hasCoin : ByteArray := prog_4_method_2_code
def yX2_hasCoin : MethodName := ⟨RX2, "hasCoin", "(I)Z"⟩
abbrev cX3_hand : ByteArray := prog_1_method_20_code
def yX3_hand : MethodName := ⟨RX3, "hand", "(LScrollTown$Scroll;LScrollTown$Meter;I[BII)I"⟩
abbrev cX1_isGood : ByteArray := prog_3_method_10_code
def yX1_isGood : MethodName := ⟨RX1, "isGood", "(LScrollTown$Scroll;I[BILScrollTown$Hash;)Z"⟩
abbrev cX1_take : ByteArray := prog_3_method_11_code
def yX1_take : MethodName := ⟨RX1, "take", "(LScrollTown$Scroll;I[BI)I"⟩
abbrev cX3_offer : ByteArray := prog_1_method_8_code
def yX3_offer : MethodName := ⟨RX3, "offer", "(IIII)I"⟩
abbrev cX1_isNext : ByteArray := prog_3_method_9_code
def yX1_isNext : MethodName := ⟨RX1, "isNext", "(LScrollTown$Scroll;I)Z"⟩
abbrev cX3_poke : ByteArray := prog_1_method_9_code
def yX3_poke : MethodName := ⟨RX3, "poke", "(II)Z"⟩
abbrev cX3_coinByte : ByteArray := prog_1_method_10_code
def yX3_coinByte : MethodName := ⟨RX3, "coinByte", "(III)I"⟩
abbrev cX3_letterByte : ByteArray := prog_1_method_11_code
def yX3_letterByte : MethodName := ⟨RX3, "letterByte", "(II)I"⟩
abbrev cX3_powerCut : ByteArray := prog_1_method_12_code
def yX3_powerCut : MethodName := ⟨RX3, "powerCut", "(II)Z"⟩
abbrev cX3_empty : ByteArray := prog_1_method_13_code
def yX3_empty : MethodName := ⟨RX3, "empty", "(I)I"⟩
abbrev cX3_readOut : ByteArray := prog_1_method_21_code
def yX3_readOut : MethodName := ⟨RX3, "readOut", "(LScrollTown$Meter;LScrollTown$Scroll;)V"⟩
abbrev cX1_strike : ByteArray := prog_3_method_7_code
def yX1_strike : MethodName := ⟨RX1, "strike", "(LScrollTown$Scroll;)V"⟩
abbrev cX3_settle : ByteArray := prog_1_method_14_code
def yX3_settle : MethodName := ⟨RX3, "settle", "()I"⟩
abbrev cX2_settleAt : ByteArray := prog_4_method_9_code
def yX2_settleAt : MethodName := ⟨RX2, "settleAt", "(I)J"⟩
abbrev cX3_giveBack : ByteArray := prog_1_method_22_code
def yX3_giveBack : MethodName := ⟨RX3, "giveBack", "(LScrollTown$Scroll;)V"⟩
abbrev cX3_account : ByteArray := prog_1_method_15_code
def yX3_account : MethodName := ⟨RX3, "account", "(I)J"⟩
abbrev cX3_inAllPurses : ByteArray := prog_1_method_23_code
def yX3_inAllPurses : MethodName := ⟨RX3, "inAllPurses", "()J"⟩
abbrev cX3_spent : ByteArray := prog_1_method_16_code
def yX3_spent : MethodName := ⟨RX3, "spent", "(II)I"⟩
abbrev cX3_overspent : ByteArray := prog_1_method_17_code
def yX3_overspent : MethodName := ⟨RX3, "overspent", "(I)I"⟩
abbrev cX3_minutes : ByteArray := prog_1_method_18_code
def yX3_minutes : MethodName := ⟨RX3, "minutes", "(II)I"⟩
abbrev cX3_count : ByteArray := prog_1_method_19_code
def yX3_count : MethodName := ⟨RX3, "count", "(I)I"⟩
abbrev cX3_onAllLists : ByteArray := prog_1_method_24_code
def yX3_onAllLists : MethodName := ⟨RX3, "onAllLists", "()I"⟩
abbrev cX3_blockedScrolls : ByteArray := prog_1_method_25_code
def yX3_blockedScrolls : MethodName := ⟨RX3, "blockedScrolls", "()I"⟩
abbrev cX3_closedScrolls : ByteArray := prog_1_method_26_code
def yX3_closedScrolls : MethodName := ⟨RX3, "closedScrolls", "()I"⟩
abbrev cX4_init : ByteArray := prog_6_method_1_code
def yX4_init : MethodName := ⟨RX4, "<init>", "()V"⟩
abbrev cX4_primes : ByteArray := prog_6_method_4_code
def yX4_primes : MethodName := ⟨RX4, "primes", "()V"⟩
abbrev cX4_four : ByteArray := prog_6_method_3_code
def yX4_four : MethodName := ⟨RX4, "four", "(IIIII)V"⟩
abbrev cX4_newWeek : ByteArray := prog_6_method_17_code
def yX4_newWeek : MethodName := ⟨RX4, "newWeek", "(JJ)I"⟩
abbrev cX4_today : ByteArray := prog_6_method_18_code
def yX4_today : MethodName := ⟨RX4, "today", "(I)Z"⟩
abbrev cX4_money : ByteArray := prog_6_method_20_code
def yX4_money : MethodName := ⟨RX4, "money", "(IJ)Z"⟩
abbrev cX4_within : ByteArray := prog_6_method_19_code
def yX4_within : MethodName := ⟨RX4, "within", "(III)Z"⟩
abbrev cX4_buy : ByteArray := prog_6_method_21_code
def yX4_buy : MethodName := ⟨RX4, "buy", "(IIIIJI)I"⟩
abbrev cX4_insert : ByteArray := prog_6_method_26_code
def yX4_insert : MethodName := ⟨RX4, "insert", "(II)I"⟩
abbrev cX4_isPair : ByteArray := prog_6_method_22_code
def yX4_isPair : MethodName := ⟨RX4, "isPair", "(II)Z"⟩
abbrev cX4_knows : ByteArray := prog_6_method_24_code
def yX4_knows : MethodName := ⟨RX4, "knows", "(II)Z"⟩
abbrev cX4_letterOf : ByteArray := prog_6_method_16_code
def yX4_letterOf : MethodName := ⟨RX4, "letterOf", "(I)V"⟩
abbrev cX4_number : ByteArray := prog_6_method_13_code
def yX4_number : MethodName := ⟨RX4, "number", "(III)V"⟩
abbrev cX4_coinOf : ByteArray := prog_6_method_10_code
def yX4_coinOf : MethodName := ⟨RX4, "coinOf", "(II)V"⟩
abbrev cX4_hash : ByteArray := prog_6_method_7_code
def yX4_hash : MethodName := ⟨RX4, "hash", "(I)V"⟩
abbrev cX4_block : ByteArray := prog_6_method_6_code
def yX4_block : MethodName := ⟨RX4, "block", "(I)V"⟩
abbrev cX4_rot : ByteArray := prog_6_method_5_code
def yX4_rot : MethodName := ⟨RX4, "rot", "(II)I"⟩
abbrev cX4_cut : ByteArray := prog_6_method_9_code
def yX4_cut : MethodName := ⟨RX4, "cut", "()V"⟩
abbrev cX4_hashed : ByteArray := prog_6_method_11_code
def yX4_hashed : MethodName := ⟨RX4, "hashed", "()V"⟩
abbrev cX4_coinToRow : ByteArray := prog_6_method_8_code
def yX4_coinToRow : MethodName := ⟨RX4, "coinToRow", "()V"⟩
abbrev cX4_headed : ByteArray := prog_6_method_12_code
def yX4_headed : MethodName := ⟨RX4, "headed", "(I)V"⟩
abbrev cX4_codeBy : ByteArray := prog_6_method_15_code
def yX4_codeBy : MethodName := ⟨RX4, "codeBy", "(JJ)V"⟩
abbrev cX4_keyToRow : ByteArray := prog_6_method_14_code
def yX4_keyToRow : MethodName := ⟨RX4, "keyToRow", "(JJI)V"⟩
abbrev cX4_lists : ByteArray := prog_6_method_23_code
def yX4_lists : MethodName := ⟨RX4, "lists", "(I)I"⟩
abbrev cX4_stays : ByteArray := prog_6_method_25_code
def yX4_stays : MethodName := ⟨RX4, "stays", "(I)Z"⟩
abbrev cX4_pay : ByteArray := prog_6_method_29_code
def yX4_pay : MethodName := ⟨RX4, "pay", "(IIII)I"⟩
abbrev cX4_answers : ByteArray := prog_6_method_27_code
def yX4_answers : MethodName := ⟨RX4, "answers", "(III)I"⟩
abbrev cX4_takes : ByteArray := prog_6_method_28_code
def yX4_takes : MethodName := ⟨RX4, "takes", "(IIIIZ)I"⟩
abbrev cX4_offer : ByteArray := prog_6_method_30_code
def yX4_offer : MethodName := ⟨RX4, "offer", "(IIII)I"⟩
abbrev cX4_poke : ByteArray := prog_6_method_31_code
def yX4_poke : MethodName := ⟨RX4, "poke", "(II)Z"⟩
abbrev cX4_coinByte : ByteArray := prog_6_method_32_code
def yX4_coinByte : MethodName := ⟨RX4, "coinByte", "(III)I"⟩
abbrev cX4_letterByte : ByteArray := prog_6_method_33_code
def yX4_letterByte : MethodName := ⟨RX4, "letterByte", "(II)I"⟩
abbrev cX4_powerCut : ByteArray := prog_6_method_34_code
def yX4_powerCut : MethodName := ⟨RX4, "powerCut", "(II)Z"⟩
abbrev cX4_empty : ByteArray := prog_6_method_35_code
def yX4_empty : MethodName := ⟨RX4, "empty", "(I)I"⟩
abbrev cX4_settle : ByteArray := prog_6_method_36_code
def yX4_settle : MethodName := ⟨RX4, "settle", "()I"⟩
abbrev cX4_account : ByteArray := prog_6_method_37_code
def yX4_account : MethodName := ⟨RX4, "account", "(I)J"⟩
abbrev cX4_spent : ByteArray := prog_6_method_38_code
def yX4_spent : MethodName := ⟨RX4, "spent", "(II)I"⟩
abbrev cX4_overspent : ByteArray := prog_6_method_39_code
def yX4_overspent : MethodName := ⟨RX4, "overspent", "(I)I"⟩
abbrev cX4_minutes : ByteArray := prog_6_method_40_code
def yX4_minutes : MethodName := ⟨RX4, "minutes", "(II)I"⟩
abbrev cX4_count : ByteArray := prog_6_method_41_code
def yX4_count : MethodName := ⟨RX4, "count", "(I)I"⟩
/-- the good words of the tables -/
def GT : List Cond := lw_tbl.filter goodWord
theorem gt_t {w : Cond} (i : Nat) (h : tables_1[i]? = some w) (hg : goodWord w = true) : w ∈ GT := List.mem_filter.mpr ⟨List.mem_append_right _ (List.mem_of_getElem? h), hg⟩
theorem gt_s {w : Cond} (i : Nat) (h : (k2_sels lw_privs)[i]? = some w) (hg : goodWord w = true) : w ∈ GT := List.mem_filter.mpr ⟨List.mem_append_left _ (List.mem_of_getElem? h), hg⟩
theorem gt_good {w : Cond} (h : w ∈ GT) : (w.onTables && w.keeps) = true ∨ ∃ ty, w = .arrayClass ty := good_of_word (List.mem_filter.mp h).2
theorem gt_ps {ws : List Cond} (ps : List Nat) (h : ws = ps.filterMap (fun i => tables_1[i]?)) (hg : ws.all goodWord = true) : ∀ w ∈ ws, w ∈ GT := by
  intro w hw
  have h1 := List.all_eq_true.mp hg w hw
  rw [h] at hw
  obtain ⟨i, -, hi⟩ := List.mem_filterMap.mp hw
  exact gt_t i hi h1
theorem gt_code {y : MethodName} {b : ByteArray} {n : Nat} {r : Option FieldType} (h : Cond.code y b n r ∈ GT) : GoodIn GT (Cond.code y b n r :: GT) := fun w hw => by
  rcases List.mem_cons.mp hw with e | e
  · rw [e]; exact ⟨h, gt_good h⟩
  · exact ⟨e, gt_good e⟩
theorem gt_app {a b : List Cond} (ha : ∀ w ∈ a, w ∈ GT) (hb : GoodIn GT b) : GoodIn GT (a ++ b) := fun w hw => (List.mem_append.mp hw).elim (fun h => ⟨ha w h, gt_good (ha w h)⟩) (hb w)
theorem inX0 : ∀ w ∈ u_ws RX0 TX0 6, w ∈ GT := gt_ps [33, 35, 37, 39, 41, 43] (by decide +kernel) (by decide +kernel)
theorem inX1 : ∀ w ∈ u_ws RX1 TX1 11, w ∈ GT := gt_ps [78, 80, 82, 84, 86, 88, 90, 92, 94, 96, 98] (by decide +kernel) (by decide +kernel)
theorem inX2 : ∀ w ∈ u_ws RX2 TX2 14, w ∈ GT := gt_ps [207, 209, 211, 213, 215, 217, 219, 221, 223, 225, 227, 229, 231, 233] (by decide +kernel) (by decide +kernel)
theorem inX3 : ∀ w ∈ u_ws RX3 TX3 12, w ∈ GT := gt_ps [115, 117, 119, 121, 123, 125, 127, 129, 131, 133, 135, 137] (by decide +kernel) (by decide +kernel)
theorem inX4 : ∀ w ∈ u_ws RX4 TX4 45, w ∈ GT := gt_ps [605, 607, 609, 611, 613, 615, 617, 619, 621, 623, 625, 627, 629, 631, 633, 635, 637, 639, 641, 643, 645, 647, 649, 651, 653, 655, 657, 659, 661, 663, 665, 667, 669, 671, 673, 675, 677, 679, 681, 683, 685, 687, 689, 691, 693] (by decide +kernel) (by decide +kernel)
