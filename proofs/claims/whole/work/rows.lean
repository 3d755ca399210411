section
-- ===== PART A: goes FIRST, ahead of the names: the tables' words, and 'selects' of the private methods out of them =====
/-- a private method of a class that the tables say can be made, by its rows of tables_1 -/
def lw_okq (q : MethodName × Nat) : Prop := (q.1.cls ≠ "java/lang/invoke/MethodHandle" ∧ q.1.cls ≠ "java/lang/invoke/VarHandle") ∧ Cond.instantiable q.1.cls q.2 ∈ tables_1 ∧ Cond.privateMethod q.1 ∈ tables_1 ∧ Cond.instanceMethod q.1 ∈ tables_1
theorem lw_p0 : lw_okq (⟨"EelLocks", "refusalOfTwo", "(II)I"⟩, 7) := ⟨⟨by decide +kernel, by decide +kernel⟩, List.mem_of_getElem? (i := 14) (by decide +kernel), List.mem_of_getElem? (i := 423) (by decide +kernel), List.mem_of_getElem? (i := 424) (by decide +kernel)⟩
theorem lw_p1 : lw_okq (⟨"EelLocks$Outlook", "suits", "(LEelLocks$Canal;LEelLocks$State;II)Z"⟩, 2) := ⟨⟨by decide +kernel, by decide +kernel⟩, List.mem_of_getElem? (i := 157) (by decide +kernel), List.mem_of_getElem? (i := 435) (by decide +kernel), List.mem_of_getElem? (i := 436) (by decide +kernel)⟩
theorem lw_p2 : lw_okq (⟨"EelLocks$Outlook", "makeNextOrder", "(I)V"⟩, 2) := ⟨⟨by decide +kernel, by decide +kernel⟩, List.mem_of_getElem? (i := 157) (by decide +kernel), List.mem_of_getElem? (i := 444) (by decide +kernel), List.mem_of_getElem? (i := 445) (by decide +kernel)⟩
theorem lw_p3 : lw_okq (⟨"EelLocks$Outlook", "exchange", "(II)V"⟩, 2) := ⟨⟨by decide +kernel, by decide +kernel⟩, List.mem_of_getElem? (i := 157) (by decide +kernel), List.mem_of_getElem? (i := 448) (by decide +kernel), List.mem_of_getElem? (i := 449) (by decide +kernel)⟩
theorem lw_p4 : lw_okq (⟨"EelLocks$Outlook", "suitsWith", "(LEelLocks$Canal;IIII)Z"⟩, 2) := ⟨⟨by decide +kernel, by decide +kernel⟩, List.mem_of_getElem? (i := 157) (by decide +kernel), List.mem_of_getElem? (i := 460) (by decide +kernel), List.mem_of_getElem? (i := 461) (by decide +kernel)⟩
theorem lw_p5 : lw_okq (⟨"EelLocks$Outlook", "canGive", "(LEelLocks$Canal;I)Z"⟩, 2) := ⟨⟨by decide +kernel, by decide +kernel⟩, List.mem_of_getElem? (i := 157) (by decide +kernel), List.mem_of_getElem? (i := 465) (by decide +kernel), List.mem_of_getElem? (i := 466) (by decide +kernel)⟩
theorem lw_p6 : lw_okq (⟨"EelLocks$Outlook", "canGiveBoth", "(LEelLocks$Canal;II)Z"⟩, 2) := ⟨⟨by decide +kernel, by decide +kernel⟩, List.mem_of_getElem? (i := 157) (by decide +kernel), List.mem_of_getElem? (i := 472) (by decide +kernel), List.mem_of_getElem? (i := 473) (by decide +kernel)⟩
theorem lw_p7 : lw_okq (⟨"EelLocks$Outlook", "lastHourOf", "(LEelLocks$Canal;I)I"⟩, 2) := ⟨⟨by decide +kernel, by decide +kernel⟩, List.mem_of_getElem? (i := 157) (by decide +kernel), List.mem_of_getElem? (i := 507) (by decide +kernel), List.mem_of_getElem? (i := 508) (by decide +kernel)⟩
theorem lw_p8 : lw_okq (⟨"EelLocks$Guesses", "comesOutSo", "(LEelLocks$Canal;III)Z"⟩, 6) := ⟨⟨by decide +kernel, by decide +kernel⟩, List.mem_of_getElem? (i := 170) (by decide +kernel), List.mem_of_getElem? (i := 540) (by decide +kernel), List.mem_of_getElem? (i := 541) (by decide +kernel)⟩
theorem lw_p9 : lw_okq (⟨"EelLocks$Guesses", "addGivers", "(LEelLocks$Canal;LEelLocks$State;II)V"⟩, 6) := ⟨⟨by decide +kernel, by decide +kernel⟩, List.mem_of_getElem? (i := 170) (by decide +kernel), List.mem_of_getElem? (i := 545) (by decide +kernel), List.mem_of_getElem? (i := 546) (by decide +kernel)⟩
theorem lw_p10 : lw_okq (⟨"EelLocks$Guesses", "findLosses", "(LEelLocks$Canal;III)V"⟩, 6) := ⟨⟨by decide +kernel, by decide +kernel⟩, List.mem_of_getElem? (i := 170) (by decide +kernel), List.mem_of_getElem? (i := 560) (by decide +kernel), List.mem_of_getElem? (i := 561) (by decide +kernel)⟩
theorem lw_p11 : lw_okq (⟨"EelLocks$Guesses", "isAtRest", "(II)Z"⟩, 6) := ⟨⟨by decide +kernel, by decide +kernel⟩, List.mem_of_getElem? (i := 170) (by decide +kernel), List.mem_of_getElem? (i := 565) (by decide +kernel), List.mem_of_getElem? (i := 566) (by decide +kernel)⟩
theorem lw_p12 : lw_okq (⟨"EelLocks$Guesses", "isAtWith", "(LEelLocks$Canal;III)Z"⟩, 6) := ⟨⟨by decide +kernel, by decide +kernel⟩, List.mem_of_getElem? (i := 170) (by decide +kernel), List.mem_of_getElem? (i := 581) (by decide +kernel), List.mem_of_getElem? (i := 582) (by decide +kernel)⟩
theorem lw_p13 : lw_okq (⟨"EelLocksModel", "readText", "()I"⟩, 23) := ⟨⟨by decide +kernel, by decide +kernel⟩, List.mem_of_getElem? (i := 625) (by decide +kernel), List.mem_of_getElem? (i := 717) (by decide +kernel), List.mem_of_getElem? (i := 718) (by decide +kernel)⟩
theorem lw_p14 : lw_okq (⟨"EelLocksModel", "figure", "(II)I"⟩, 23) := ⟨⟨by decide +kernel, by decide +kernel⟩, List.mem_of_getElem? (i := 625) (by decide +kernel), List.mem_of_getElem? (i := 721) (by decide +kernel), List.mem_of_getElem? (i := 722) (by decide +kernel)⟩
theorem lw_p15 : lw_okq (⟨"EelLocksModel", "isBarge", "(I)Z"⟩, 23) := ⟨⟨by decide +kernel, by decide +kernel⟩, List.mem_of_getElem? (i := 625) (by decide +kernel), List.mem_of_getElem? (i := 733) (by decide +kernel), List.mem_of_getElem? (i := 734) (by decide +kernel)⟩
def lw_privs_1 : List (MethodName × Nat) := [(⟨"EelLocks", "refusalOfTwo", "(II)I"⟩, 7), (⟨"EelLocks$Outlook", "suits", "(LEelLocks$Canal;LEelLocks$State;II)Z"⟩, 2), (⟨"EelLocks$Outlook", "makeNextOrder", "(I)V"⟩, 2), (⟨"EelLocks$Outlook", "exchange", "(II)V"⟩, 2), (⟨"EelLocks$Outlook", "suitsWith", "(LEelLocks$Canal;IIII)Z"⟩, 2), (⟨"EelLocks$Outlook", "canGive", "(LEelLocks$Canal;I)Z"⟩, 2), (⟨"EelLocks$Outlook", "canGiveBoth", "(LEelLocks$Canal;II)Z"⟩, 2), (⟨"EelLocks$Outlook", "lastHourOf", "(LEelLocks$Canal;I)I"⟩, 2), (⟨"EelLocks$Guesses", "comesOutSo", "(LEelLocks$Canal;III)Z"⟩, 6), (⟨"EelLocks$Guesses", "addGivers", "(LEelLocks$Canal;LEelLocks$State;II)V"⟩, 6), (⟨"EelLocks$Guesses", "findLosses", "(LEelLocks$Canal;III)V"⟩, 6), (⟨"EelLocks$Guesses", "isAtRest", "(II)Z"⟩, 6), (⟨"EelLocks$Guesses", "isAtWith", "(LEelLocks$Canal;III)Z"⟩, 6), (⟨"EelLocksModel", "readText", "()I"⟩, 23), (⟨"EelLocksModel", "figure", "(II)I"⟩, 23), (⟨"EelLocksModel", "isBarge", "(I)Z"⟩, 23)]
theorem lw_r1 : ∀ q ∈ lw_privs_1, lw_okq q := List.forall_mem_cons.mpr ⟨lw_p0, List.forall_mem_cons.mpr ⟨lw_p1, List.forall_mem_cons.mpr ⟨lw_p2, List.forall_mem_cons.mpr ⟨lw_p3, List.forall_mem_cons.mpr ⟨lw_p4, List.forall_mem_cons.mpr ⟨lw_p5, List.forall_mem_cons.mpr ⟨lw_p6, List.forall_mem_cons.mpr ⟨lw_p7, List.forall_mem_cons.mpr ⟨lw_p8, List.forall_mem_cons.mpr ⟨lw_p9, List.forall_mem_cons.mpr ⟨lw_p10, List.forall_mem_cons.mpr ⟨lw_p11, List.forall_mem_cons.mpr ⟨lw_p12, List.forall_mem_cons.mpr ⟨lw_p13, List.forall_mem_cons.mpr ⟨lw_p14, List.forall_mem_cons.mpr ⟨lw_p15, fun _ h => absurd h List.not_mem_nil⟩⟩⟩⟩⟩⟩⟩⟩⟩⟩⟩⟩⟩⟩⟩⟩
theorem lw_p16 : lw_okq (⟨"EelLocksModel", "placeOf", "(III)I"⟩, 23) := ⟨⟨by decide +kernel, by decide +kernel⟩, List.mem_of_getElem? (i := 625) (by decide +kernel), List.mem_of_getElem? (i := 737) (by decide +kernel), List.mem_of_getElem? (i := 738) (by decide +kernel)⟩
theorem lw_p17 : lw_okq (⟨"EelLocksModel", "isLock", "(I)Z"⟩, 23) := ⟨⟨by decide +kernel, by decide +kernel⟩, List.mem_of_getElem? (i := 625) (by decide +kernel), List.mem_of_getElem? (i := 745) (by decide +kernel), List.mem_of_getElem? (i := 746) (by decide +kernel)⟩
theorem lw_p18 : lw_okq (⟨"EelLocksModel", "givenAt", "(I)I"⟩, 23) := ⟨⟨by decide +kernel, by decide +kernel⟩, List.mem_of_getElem? (i := 625) (by decide +kernel), List.mem_of_getElem? (i := 749) (by decide +kernel), List.mem_of_getElem? (i := 750) (by decide +kernel)⟩
theorem lw_p19 : lw_okq (⟨"EelLocksModel", "keepAct", "()V"⟩, 23) := ⟨⟨by decide +kernel, by decide +kernel⟩, List.mem_of_getElem? (i := 625) (by decide +kernel), List.mem_of_getElem? (i := 757) (by decide +kernel), List.mem_of_getElem? (i := 758) (by decide +kernel)⟩
theorem lw_p20 : lw_okq (⟨"EelLocksModel", "passOn", "(II)V"⟩, 23) := ⟨⟨by decide +kernel, by decide +kernel⟩, List.mem_of_getElem? (i := 625) (by decide +kernel), List.mem_of_getElem? (i := 761) (by decide +kernel), List.mem_of_getElem? (i := 762) (by decide +kernel)⟩
theorem lw_p21 : lw_okq (⟨"EelLocksModel", "isChanged", "(IIII)Z"⟩, 23) := ⟨⟨by decide +kernel, by decide +kernel⟩, List.mem_of_getElem? (i := 625) (by decide +kernel), List.mem_of_getElem? (i := 768) (by decide +kernel), List.mem_of_getElem? (i := 769) (by decide +kernel)⟩
theorem lw_p22 : lw_okq (⟨"EelLocksModel", "figuresOf", "(II)I"⟩, 23) := ⟨⟨by decide +kernel, by decide +kernel⟩, List.mem_of_getElem? (i := 625) (by decide +kernel), List.mem_of_getElem? (i := 772) (by decide +kernel), List.mem_of_getElem? (i := 773) (by decide +kernel)⟩
theorem lw_p23 : lw_okq (⟨"EelLocksModel", "layBasin", "()V"⟩, 23) := ⟨⟨by decide +kernel, by decide +kernel⟩, List.mem_of_getElem? (i := 625) (by decide +kernel), List.mem_of_getElem? (i := 797) (by decide +kernel), List.mem_of_getElem? (i := 798) (by decide +kernel)⟩
theorem lw_p24 : lw_okq (⟨"EelLocksModel", "layTrial", "()V"⟩, 23) := ⟨⟨by decide +kernel, by decide +kernel⟩, List.mem_of_getElem? (i := 625) (by decide +kernel), List.mem_of_getElem? (i := 801) (by decide +kernel), List.mem_of_getElem? (i := 802) (by decide +kernel)⟩
theorem lw_p25 : lw_okq (⟨"EelLocksModel", "passAll", "(I)V"⟩, 23) := ⟨⟨by decide +kernel, by decide +kernel⟩, List.mem_of_getElem? (i := 625) (by decide +kernel), List.mem_of_getElem? (i := 805) (by decide +kernel), List.mem_of_getElem? (i := 806) (by decide +kernel)⟩
theorem lw_p26 : lw_okq (⟨"EelLocksModel", "layOrder", "(I)V"⟩, 23) := ⟨⟨by decide +kernel, by decide +kernel⟩, List.mem_of_getElem? (i := 625) (by decide +kernel), List.mem_of_getElem? (i := 828) (by decide +kernel), List.mem_of_getElem? (i := 829) (by decide +kernel)⟩
theorem lw_p27 : lw_okq (⟨"EelLocksModel", "isSo", "(II)Z"⟩, 23) := ⟨⟨by decide +kernel, by decide +kernel⟩, List.mem_of_getElem? (i := 625) (by decide +kernel), List.mem_of_getElem? (i := 835) (by decide +kernel), List.mem_of_getElem? (i := 836) (by decide +kernel)⟩
theorem lw_p28 : lw_okq (⟨"EelLocksModel", "giveTrial", "(II)Z"⟩, 23) := ⟨⟨by decide +kernel, by decide +kernel⟩, List.mem_of_getElem? (i := 625) (by decide +kernel), List.mem_of_getElem? (i := 843) (by decide +kernel), List.mem_of_getElem? (i := 844) (by decide +kernel)⟩
theorem lw_p29 : lw_okq (⟨"EelLocksModel", "hoursBy", "(I)I"⟩, 23) := ⟨⟨by decide +kernel, by decide +kernel⟩, List.mem_of_getElem? (i := 625) (by decide +kernel), List.mem_of_getElem? (i := 859) (by decide +kernel), List.mem_of_getElem? (i := 860) (by decide +kernel)⟩
theorem lw_p30 : lw_okq (⟨"EelLocksModel", "greatest", "(II)I"⟩, 23) := ⟨⟨by decide +kernel, by decide +kernel⟩, List.mem_of_getElem? (i := 625) (by decide +kernel), List.mem_of_getElem? (i := 863) (by decide +kernel), List.mem_of_getElem? (i := 864) (by decide +kernel)⟩
theorem lw_p31 : lw_okq (⟨"EelLocksModel", "isOrder", "(I)Z"⟩, 23) := ⟨⟨by decide +kernel, by decide +kernel⟩, List.mem_of_getElem? (i := 625) (by decide +kernel), List.mem_of_getElem? (i := 877) (by decide +kernel), List.mem_of_getElem? (i := 878) (by decide +kernel)⟩
def lw_privs_2 : List (MethodName × Nat) := [(⟨"EelLocksModel", "placeOf", "(III)I"⟩, 23), (⟨"EelLocksModel", "isLock", "(I)Z"⟩, 23), (⟨"EelLocksModel", "givenAt", "(I)I"⟩, 23), (⟨"EelLocksModel", "keepAct", "()V"⟩, 23), (⟨"EelLocksModel", "passOn", "(II)V"⟩, 23), (⟨"EelLocksModel", "isChanged", "(IIII)Z"⟩, 23), (⟨"EelLocksModel", "figuresOf", "(II)I"⟩, 23), (⟨"EelLocksModel", "layBasin", "()V"⟩, 23), (⟨"EelLocksModel", "layTrial", "()V"⟩, 23), (⟨"EelLocksModel", "passAll", "(I)V"⟩, 23), (⟨"EelLocksModel", "layOrder", "(I)V"⟩, 23), (⟨"EelLocksModel", "isSo", "(II)Z"⟩, 23), (⟨"EelLocksModel", "giveTrial", "(II)Z"⟩, 23), (⟨"EelLocksModel", "hoursBy", "(I)I"⟩, 23), (⟨"EelLocksModel", "greatest", "(II)I"⟩, 23), (⟨"EelLocksModel", "isOrder", "(I)Z"⟩, 23)]
theorem lw_r2 : ∀ q ∈ lw_privs_2, lw_okq q := List.forall_mem_cons.mpr ⟨lw_p16, List.forall_mem_cons.mpr ⟨lw_p17, List.forall_mem_cons.mpr ⟨lw_p18, List.forall_mem_cons.mpr ⟨lw_p19, List.forall_mem_cons.mpr ⟨lw_p20, List.forall_mem_cons.mpr ⟨lw_p21, List.forall_mem_cons.mpr ⟨lw_p22, List.forall_mem_cons.mpr ⟨lw_p23, List.forall_mem_cons.mpr ⟨lw_p24, List.forall_mem_cons.mpr ⟨lw_p25, List.forall_mem_cons.mpr ⟨lw_p26, List.forall_mem_cons.mpr ⟨lw_p27, List.forall_mem_cons.mpr ⟨lw_p28, List.forall_mem_cons.mpr ⟨lw_p29, List.forall_mem_cons.mpr ⟨lw_p30, List.forall_mem_cons.mpr ⟨lw_p31, fun _ h => absurd h List.not_mem_nil⟩⟩⟩⟩⟩⟩⟩⟩⟩⟩⟩⟩⟩⟩⟩⟩
theorem lw_p32 : lw_okq (⟨"EelLocksModel", "comesSo", "(III)Z"⟩, 23) := ⟨⟨by decide +kernel, by decide +kernel⟩, List.mem_of_getElem? (i := 625) (by decide +kernel), List.mem_of_getElem? (i := 882) (by decide +kernel), List.mem_of_getElem? (i := 883) (by decide +kernel)⟩
theorem lw_p33 : lw_okq (⟨"EelLocksModel", "layLosses", "(III)V"⟩, 23) := ⟨⟨by decide +kernel, by decide +kernel⟩, List.mem_of_getElem? (i := 625) (by decide +kernel), List.mem_of_getElem? (i := 890) (by decide +kernel), List.mem_of_getElem? (i := 891) (by decide +kernel)⟩
theorem lw_p34 : lw_okq (⟨"EelLocksModel", "isRest", "(I)Z"⟩, 23) := ⟨⟨by decide +kernel, by decide +kernel⟩, List.mem_of_getElem? (i := 625) (by decide +kernel), List.mem_of_getElem? (i := 894) (by decide +kernel), List.mem_of_getElem? (i := 895) (by decide +kernel)⟩
theorem lw_p35 : lw_okq (⟨"EelLocksModel", "isFirst", "(I)Z"⟩, 23) := ⟨⟨by decide +kernel, by decide +kernel⟩, List.mem_of_getElem? (i := 625) (by decide +kernel), List.mem_of_getElem? (i := 915) (by decide +kernel), List.mem_of_getElem? (i := 916) (by decide +kernel)⟩
theorem lw_p36 : lw_okq (⟨"EelLocksModel", "sumOf", "(II)I"⟩, 23) := ⟨⟨by decide +kernel, by decide +kernel⟩, List.mem_of_getElem? (i := 625) (by decide +kernel), List.mem_of_getElem? (i := 931) (by decide +kernel), List.mem_of_getElem? (i := 932) (by decide +kernel)⟩
def lw_privs_3 : List (MethodName × Nat) := [(⟨"EelLocksModel", "comesSo", "(III)Z"⟩, 23), (⟨"EelLocksModel", "layLosses", "(III)V"⟩, 23), (⟨"EelLocksModel", "isRest", "(I)Z"⟩, 23), (⟨"EelLocksModel", "isFirst", "(I)Z"⟩, 23), (⟨"EelLocksModel", "sumOf", "(II)I"⟩, 23)]
theorem lw_r3 : ∀ q ∈ lw_privs_3, lw_okq q := List.forall_mem_cons.mpr ⟨lw_p32, List.forall_mem_cons.mpr ⟨lw_p33, List.forall_mem_cons.mpr ⟨lw_p34, List.forall_mem_cons.mpr ⟨lw_p35, List.forall_mem_cons.mpr ⟨lw_p36, fun _ h => absurd h List.not_mem_nil⟩⟩⟩⟩⟩
def lw_privs : List (MethodName × Nat) := lw_privs_1 ++ (lw_privs_2 ++ (lw_privs_3))
def lw_tbl : List Cond := k2_sels lw_privs ++ tables_1
theorem lw_privs_ok : ∀ q ∈ lw_privs, lw_okq q := by
  show ∀ q ∈ lw_privs_1 ++ (lw_privs_2 ++ (lw_privs_3)), lw_okq q
  exact List.forall_mem_append.mpr ⟨lw_r1, List.forall_mem_append.mpr ⟨lw_r2, lw_r3⟩⟩
def RX0 : String := "EelLocks$Acts"
def TX0 : u_T := fun k => match k with
  | 0 => ("EelLocks$Acts", "before", "[LEelLocks$State;", true)
  | 1 => ("EelLocks$Acts", "oldest", "I", false)
  | _ => ("EelLocks$Acts", "size", "I", false)
def tyX0 : Nat → FieldType := fun k => match k with
  | 0 => .array (.object "EelLocks$State")
  | 1 => .int
  | _ => .int
theorem nmX0 : ∀ a, a < 3 → ∀ b, b < 3 → a ≠ b → (TX0 a).2.1 ≠ (TX0 b).2.1 := by decide +kernel
theorem tyX0_ok : ∀ k, k < 3 → parseFieldDescriptor (TX0 k).2.2.1 = some (tyX0 k) := by decide +kernel
abbrev cX0_init : ByteArray := prog_2_method_1_code
def yX0_init : MethodName := ⟨RX0, "<init>", "()V"⟩
abbrev cX0_remember : ByteArray := prog_2_method_2_code
def yX0_remember : MethodName := ⟨RX0, "remember", "(LEelLocks$State;)V"⟩
abbrev cX0_takeBack : ByteArray := prog_2_method_3_code
def yX0_takeBack : MethodName := ⟨RX0, "takeBack", "(LEelLocks$State;)V"⟩
abbrev cX0_forgetAll : ByteArray := prog_2_method_4_code
def yX0_forgetAll : MethodName := ⟨RX0, "forgetAll", "()V"⟩
def RX1 : String := "EelLocks$Canal"
def TX1 : u_T := fun k => match k with
  | 0 => ("EelLocks$Canal", "lengths", "[I", true)
  | 1 => ("EelLocks$Canal", "weights", "[I", true)
  | 2 => ("EelLocks$Canal", "now", "LEelLocks$State;", true)
  | 3 => ("EelLocks$Canal", "trial", "LEelLocks$State;", true)
  | 4 => ("EelLocks$Canal", "locks", "I", false)
  | _ => ("EelLocks$Canal", "barges", "I", false)
def tyX1 : Nat → FieldType := fun k => match k with
  | 0 => .array .int
  | 1 => .array .int
  | 2 => .object "EelLocks$State"
  | 3 => .object "EelLocks$State"
  | 4 => .int
  | _ => .int
theorem nmX1 : ∀ a, a < 6 → ∀ b, b < 6 → a ≠ b → (TX1 a).2.1 ≠ (TX1 b).2.1 := by decide +kernel
theorem tyX1_ok : ∀ k, k < 6 → parseFieldDescriptor (TX1 k).2.2.1 = some (tyX1 k) := by decide +kernel
abbrev cX1_init : ByteArray := prog_3_method_1_code
def yX1_init : MethodName := ⟨RX1, "<init>", "()V"⟩
abbrev cX1_makeFrom : ByteArray := prog_3_method_2_code
def yX1_makeFrom : MethodName := ⟨RX1, "makeFrom", "(LEelLocks$Text;)V"⟩
abbrev cX1_hasBarge : ByteArray := prog_3_method_3_code
def yX1_hasBarge : MethodName := ⟨RX1, "hasBarge", "(I)Z"⟩
abbrev cX1_hasLock : ByteArray := prog_3_method_4_code
def yX1_hasLock : MethodName := ⟨RX1, "hasLock", "(I)Z"⟩
abbrev cX1_isPassed : ByteArray := prog_3_method_5_code
def yX1_isPassed : MethodName := ⟨RX1, "isPassed", "(I)Z"⟩
abbrev cX1_locksLeft : ByteArray := prog_3_method_6_code
def yX1_locksLeft : MethodName := ⟨RX1, "locksLeft", "()I"⟩
abbrev cX1_newTrial : ByteArray := prog_3_method_7_code
def yX1_newTrial : MethodName := ⟨RX1, "newTrial", "()LEelLocks$State;"⟩
abbrev cX1_atBasin : ByteArray := prog_3_method_8_code
def yX1_atBasin : MethodName := ⟨RX1, "atBasin", "()LEelLocks$State;"⟩
abbrev cX1_goOnTo : ByteArray := prog_3_method_9_code
def yX1_goOnTo : MethodName := ⟨RX1, "goOnTo", "(LEelLocks$State;I)V"⟩
abbrev cX1_goThroughNext : ByteArray := prog_3_method_10_code
def yX1_goThroughNext : MethodName := ⟨RX1, "goThroughNext", "(LEelLocks$State;)V"⟩
abbrev cX1_holdsTwo : ByteArray := prog_3_method_11_code
def yX1_holdsTwo : MethodName := ⟨RX1, "holdsTwo", "(LEelLocks$State;I)Z"⟩
abbrev cX1_isSecondFirst : ByteArray := prog_3_method_12_code
def yX1_isSecondFirst : MethodName := ⟨RX1, "isSecondFirst", "(LEelLocks$State;III)Z"⟩
abbrev cX1_mateAtNext : ByteArray := prog_3_method_13_code
def yX1_mateAtNext : MethodName := ⟨RX1, "mateAtNext", "(LEelLocks$State;I)I"⟩
def RX2 : String := "EelLocks$Guesses"
def TX2 : u_T := fun k => match k with
  | 0 => ("EelLocks$Guesses", "lossOfOne", "[I", true)
  | 1 => ("EelLocks$Guesses", "lossOfOther", "[I", true)
  | 2 => ("EelLocks$Guesses", "found", "I", false)
  | 3 => ("EelLocks$Guesses", "inAll", "I", false)
  | 4 => ("EelLocks$Guesses", "inNone", "I", false)
  | _ => ("EelLocks$Guesses", "firstRest", "I", false)
def tyX2 : Nat → FieldType := fun k => match k with
  | 0 => .array .int
  | 1 => .array .int
  | 2 => .int
  | 3 => .int
  | 4 => .int
  | _ => .int
theorem nmX2 : ∀ a, a < 6 → ∀ b, b < 6 → a ≠ b → (TX2 a).2.1 ≠ (TX2 b).2.1 := by decide +kernel
theorem tyX2_ok : ∀ k, k < 6 → parseFieldDescriptor (TX2 k).2.2.1 = some (tyX2 k) := by decide +kernel
abbrev cX2_init : ByteArray := prog_4_method_1_code
def yX2_init : MethodName := ⟨RX2, "<init>", "()V"⟩
abbrev cX2_findGivers : ByteArray := prog_4_method_2_code
def yX2_findGivers : MethodName := ⟨RX2, "findGivers", "(LEelLocks$Canal;II)V"⟩
abbrev cX2_comesOutSo : ByteArray := prog_4_method_3_code
def yX2_comesOutSo : MethodName := ⟨RX2, "comesOutSo", "(LEelLocks$Canal;III)Z"⟩
abbrev cX2_addGivers : ByteArray := prog_4_method_4_code
def yX2_addGivers : MethodName := ⟨RX2, "addGivers", "(LEelLocks$Canal;LEelLocks$State;II)V"⟩
abbrev cX2_findRests : ByteArray := prog_4_method_5_code
def yX2_findRests : MethodName := ⟨RX2, "findRests", "(LEelLocks$Canal;III)V"⟩
abbrev cX2_findLosses : ByteArray := prog_4_method_6_code
def yX2_findLosses : MethodName := ⟨RX2, "findLosses", "(LEelLocks$Canal;III)V"⟩
abbrev cX2_isAtRest : ByteArray := prog_4_method_7_code
def yX2_isAtRest : MethodName := ⟨RX2, "isAtRest", "(II)Z"⟩
abbrev cX2_asleepAbove : ByteArray := prog_4_method_8_code
def yX2_asleepAbove : MethodName := ⟨RX2, "asleepAbove", "(LEelLocks$Canal;III)I"⟩
abbrev cX2_isAtWith : ByteArray := prog_4_method_9_code
def yX2_isAtWith : MethodName := ⟨RX2, "isAtWith", "(LEelLocks$Canal;III)Z"⟩
abbrev cX2_isFirstIfAllGive : ByteArray := prog_4_method_10_code
def yX2_isFirstIfAllGive : MethodName := ⟨RX2, "isFirstIfAllGive", "(LEelLocks$Canal;II)Z"⟩
def RX3 : String := "EelLocks$Outlook"
def TX3 : u_T := fun k => match k with
  | 0 => ("EelLocks$Outlook", "order", "[I", true)
  | _ => ("EelLocks$Outlook", "figures", "[I", true)
def tyX3 : Nat → FieldType := fun k => match k with
  | 0 => .array .int
  | _ => .array .int
theorem nmX3 : ∀ a, a < 2 → ∀ b, b < 2 → a ≠ b → (TX3 a).2.1 ≠ (TX3 b).2.1 := by decide +kernel
theorem tyX3_ok : ∀ k, k < 2 → parseFieldDescriptor (TX3 k).2.2.1 = some (tyX3 k) := by decide +kernel
abbrev cX3_init : ByteArray := prog_5_method_1_code
def yX3_init : MethodName := ⟨RX3, "<init>", "()V"⟩
abbrev cX3_gainsOf : ByteArray := prog_5_method_2_code
def yX3_gainsOf : MethodName := ⟨RX3, "gainsOf", "(LEelLocks$Canal;I)I"⟩
abbrev cX3_matesOf : ByteArray := prog_5_method_3_code
def yX3_matesOf : MethodName := ⟨RX3, "matesOf", "(LEelLocks$Canal;I)I"⟩
abbrev cX3_firstOrder : ByteArray := prog_5_method_4_code
def yX3_firstOrder : MethodName := ⟨RX3, "firstOrder", "(LEelLocks$Canal;II)I"⟩
abbrev cX3_makeNextOrder : ByteArray := prog_5_method_5_code
def yX3_makeNextOrder : MethodName := ⟨RX3, "makeNextOrder", "(I)V"⟩
abbrev cX3_exchange : ByteArray := prog_5_method_6_code
def yX3_exchange : MethodName := ⟨RX3, "exchange", "(II)V"⟩
abbrev cX3_suits : ByteArray := prog_5_method_7_code
def yX3_suits : MethodName := ⟨RX3, "suits", "(LEelLocks$Canal;LEelLocks$State;II)Z"⟩
abbrev cX3_leastLoads : ByteArray := prog_5_method_8_code
def yX3_leastLoads : MethodName := ⟨RX3, "leastLoads", "(LEelLocks$Canal;II)I"⟩
abbrev cX3_howManyLoads : ByteArray := prog_5_method_9_code
def yX3_howManyLoads : MethodName := ⟨RX3, "howManyLoads", "(I)I"⟩
abbrev cX3_canGive : ByteArray := prog_5_method_10_code
def yX3_canGive : MethodName := ⟨RX3, "canGive", "(LEelLocks$Canal;I)Z"⟩
abbrev cX3_canGiveBoth : ByteArray := prog_5_method_11_code
def yX3_canGiveBoth : MethodName := ⟨RX3, "canGiveBoth", "(LEelLocks$Canal;II)Z"⟩
abbrev cX3_suitsWith : ByteArray := prog_5_method_12_code
def yX3_suitsWith : MethodName := ⟨RX3, "suitsWith", "(LEelLocks$Canal;IIII)Z"⟩
abbrev cX3_spread : ByteArray := prog_5_method_13_code
def yX3_spread : MethodName := ⟨RX3, "spread", "(II)Z"⟩
abbrev cX3_areAllBarges : ByteArray := prog_5_method_14_code
def yX3_areAllBarges : MethodName := ⟨RX3, "areAllBarges", "(LEelLocks$Canal;I)Z"⟩
abbrev cX3_firstMisplaced : ByteArray := prog_5_method_15_code
def yX3_firstMisplaced : MethodName := ⟨RX3, "firstMisplaced", "(LEelLocks$Canal;I)I"⟩
abbrev cX3_shareAbove : ByteArray := prog_5_method_16_code
def yX3_shareAbove : MethodName := ⟨RX3, "shareAbove", "(LEelLocks$Canal;I)I"⟩
abbrev cX3_lastHourOf : ByteArray := prog_5_method_17_code
def yX3_lastHourOf : MethodName := ⟨RX3, "lastHourOf", "(LEelLocks$Canal;I)I"⟩
def RX4 : String := "EelLocks$Slots"
def TX4 : u_T := fun k => match k with
  | 0 => ("EelLocks$Slots", "states", "[LEelLocks$State;", true)
  | _ => ("EelLocks$Slots", "isKept", "[Z", true)
def tyX4 : Nat → FieldType := fun k => match k with
  | 0 => .array (.object "EelLocks$State")
  | _ => .array .boolean
theorem nmX4 : ∀ a, a < 2 → ∀ b, b < 2 → a ≠ b → (TX4 a).2.1 ≠ (TX4 b).2.1 := by decide +kernel
theorem tyX4_ok : ∀ k, k < 2 → parseFieldDescriptor (TX4 k).2.2.1 = some (tyX4 k) := by decide +kernel
abbrev cX4_init : ByteArray := prog_6_method_1_code
def yX4_init : MethodName := ⟨RX4, "<init>", "()V"⟩
abbrev cX4_put : ByteArray := prog_6_method_2_code
def yX4_put : MethodName := ⟨RX4, "put", "(ILEelLocks$State;)V"⟩
abbrev cX4_forgetAll : ByteArray := prog_6_method_3_code
def yX4_forgetAll : MethodName := ⟨RX4, "forgetAll", "()V"⟩
def RX5 : String := "EelLocks$State"
def TX5 : u_T := fun k => match k with
  | 0 => ("EelLocks$State", "row", "[I", true)
  | 1 => ("EelLocks$State", "hours", "[I", true)
  | 2 => ("EelLocks$State", "tea", "[I", true)
  | 3 => ("EelLocks$State", "laws", "[I", true)
  | 4 => ("EelLocks$State", "given", "[I", true)
  | 5 => ("EelLocks$State", "size", "I", false)
  | _ => ("EelLocks$State", "passed", "I", false)
def tyX5 : Nat → FieldType := fun k => match k with
  | 0 => .array .int
  | 1 => .array .int
  | 2 => .array .int
  | 3 => .array .int
  | 4 => .array .int
  | 5 => .int
  | _ => .int
theorem nmX5 : ∀ a, a < 7 → ∀ b, b < 7 → a ≠ b → (TX5 a).2.1 ≠ (TX5 b).2.1 := by decide +kernel
theorem tyX5_ok : ∀ k, k < 7 → parseFieldDescriptor (TX5 k).2.2.1 = some (tyX5 k) := by decide +kernel
abbrev cX5_init : ByteArray := prog_7_method_1_code
def yX5_init : MethodName := ⟨RX5, "<init>", "()V"⟩
abbrev cX5_copyFrom : ByteArray := prog_7_method_2_code
def yX5_copyFrom : MethodName := ⟨RX5, "copyFrom", "(LEelLocks$State;)V"⟩
abbrev cX5_clearAll : ByteArray := prog_7_method_3_code
def yX5_clearAll : MethodName := ⟨RX5, "clearAll", "()V"⟩
abbrev cX5_clearHours : ByteArray := prog_7_method_4_code
def yX5_clearHours : MethodName := ⟨RX5, "clearHours", "()V"⟩
abbrev cX5_placeOf : ByteArray := prog_7_method_5_code
def yX5_placeOf : MethodName := ⟨RX5, "placeOf", "(I)I"⟩
abbrev cX5_isAt : ByteArray := prog_7_method_6_code
def yX5_isAt : MethodName := ⟨RX5, "isAt", "(II)Z"⟩
abbrev cX5_turn : ByteArray := prog_7_method_7_code
def yX5_turn : MethodName := ⟨RX5, "turn", "(I)V"⟩
abbrev cX5_figures : ByteArray := prog_7_method_8_code
def yX5_figures : MethodName := ⟨RX5, "figures", "()I"⟩
abbrev cX5_greatestHour : ByteArray := prog_7_method_9_code
def yX5_greatestHour : MethodName := ⟨RX5, "greatestHour", "()I"⟩
abbrev cX5_loadsOf : ByteArray := prog_7_method_10_code
def yX5_loadsOf : MethodName := ⟨RX5, "loadsOf", "(II)I"⟩
abbrev cX5_addLoads : ByteArray := prog_7_method_11_code
def yX5_addLoads : MethodName := ⟨RX5, "addLoads", "(III)V"⟩
abbrev cX5_loadsAt : ByteArray := prog_7_method_12_code
def yX5_loadsAt : MethodName := ⟨RX5, "loadsAt", "(I)I"⟩
def RX6 : String := "EelLocks$Text"
def TX6 : u_T := fun k => match k with
  | 0 => ("EelLocks$Text", "letters", "[I", true)
  | _ => ("EelLocks$Text", "length", "I", false)
def tyX6 : Nat → FieldType := fun k => match k with
  | 0 => .array .int
  | _ => .int
theorem nmX6 : ∀ a, a < 2 → ∀ b, b < 2 → a ≠ b → (TX6 a).2.1 ≠ (TX6 b).2.1 := by decide +kernel
theorem tyX6_ok : ∀ k, k < 2 → parseFieldDescriptor (TX6 k).2.2.1 = some (tyX6 k) := by decide +kernel
abbrev cX6_init : ByteArray := prog_8_method_1_code
def yX6_init : MethodName := ⟨RX6, "<init>", "()V"⟩
abbrev cX6_append : ByteArray := prog_8_method_2_code
def yX6_append : MethodName := ⟨RX6, "append", "(I)V"⟩
abbrev cX6_faultPlace : ByteArray := prog_8_method_3_code
def yX6_faultPlace : MethodName := ⟨RX6, "faultPlace", "()I"⟩
abbrev cX6_dueBehind : ByteArray := prog_8_method_4_code
def yX6_dueBehind : MethodName := ⟨RX6, "dueBehind", "(II)I"⟩
abbrev cX6_figureAt : ByteArray := prog_8_method_5_code
def yX6_figureAt : MethodName := ⟨RX6, "figureAt", "(I)I"⟩
def RX7 : String := "EelLocks"
def TX7 : u_T := fun k => match k with
  | 0 => ("EelLocks", "text", "LEelLocks$Text;", true)
  | 1 => ("EelLocks", "way", "LEelLocks$Canal;", true)
  | 2 => ("EelLocks", "acts", "LEelLocks$Acts;", true)
  | 3 => ("EelLocks", "slots", "LEelLocks$Slots;", true)
  | 4 => ("EelLocks", "outlook", "LEelLocks$Outlook;", true)
  | 5 => ("EelLocks", "guesses", "LEelLocks$Guesses;", true)
  | _ => ("EelLocks", "seedNow", "J", false)
def tyX7 : Nat → FieldType := fun k => match k with
  | 0 => .object "EelLocks$Text"
  | 1 => .object "EelLocks$Canal"
  | 2 => .object "EelLocks$Acts"
  | 3 => .object "EelLocks$Slots"
  | 4 => .object "EelLocks$Outlook"
  | 5 => .object "EelLocks$Guesses"
  | _ => .long
theorem nmX7 : ∀ a, a < 7 → ∀ b, b < 7 → a ≠ b → (TX7 a).2.1 ≠ (TX7 b).2.1 := by decide +kernel
theorem tyX7_ok : ∀ k, k < 7 → parseFieldDescriptor (TX7 k).2.2.1 = some (tyX7 k) := by decide +kernel
abbrev cX7_init : ByteArray := prog_1_method_1_code
def yX7_init : MethodName := ⟨RX7, "<init>", "()V"⟩
abbrev cX7_write : ByteArray := prog_1_method_2_code
def yX7_write : MethodName := ⟨RX7, "write", "(I)I"⟩
abbrev cX7_wipe : ByteArray := prog_1_method_3_code
def yX7_wipe : MethodName := ⟨RX7, "wipe", "()I"⟩
abbrev cX7_fault : ByteArray := prog_1_method_4_code
def yX7_fault : MethodName := ⟨RX7, "fault", "()I"⟩
abbrev cX7_canal : ByteArray := prog_1_method_5_code
def yX7_canal : MethodName := ⟨RX7, "canal", "()I"⟩
abbrev cX7_barge : ByteArray := prog_1_method_6_code
def yX7_barge : MethodName := ⟨RX7, "barge", "(II)I"⟩
abbrev cX7_lock : ByteArray := prog_1_method_7_code
def yX7_lock : MethodName := ⟨RX7, "lock", "(II)I"⟩
abbrev cX7_pass : ByteArray := prog_1_method_8_code
def yX7_pass : MethodName := ⟨RX7, "pass", "()I"⟩
abbrev cX7_give : ByteArray := prog_1_method_9_code
def yX7_give : MethodName := ⟨RX7, "give", "(II)I"⟩
abbrev cX7_letBy : ByteArray := prog_1_method_10_code
def yX7_letBy : MethodName := ⟨RX7, "letBy", "(I)I"⟩
abbrev cX7_learn : ByteArray := prog_1_method_11_code
def yX7_learn : MethodName := ⟨RX7, "learn", "(II)I"⟩
abbrev cX7_undo : ByteArray := prog_1_method_12_code
def yX7_undo : MethodName := ⟨RX7, "undo", "()I"⟩
abbrev cX7_basin : ByteArray := prog_1_method_13_code
def yX7_basin : MethodName := ⟨RX7, "basin", "()I"⟩
abbrev cX7_hour : ByteArray := prog_1_method_14_code
def yX7_hour : MethodName := ⟨RX7, "hour", "(I)I"⟩
abbrev cX7_gains : ByteArray := prog_1_method_15_code
def yX7_gains : MethodName := ⟨RX7, "gains", "(I)I"⟩
abbrev cX7_mates : ByteArray := prog_1_method_16_code
def yX7_mates : MethodName := ⟨RX7, "mates", "(I)I"⟩
abbrev cX7_first : ByteArray := prog_1_method_17_code
def yX7_first : MethodName := ⟨RX7, "first", "(II)I"⟩
abbrev cX7_tea : ByteArray := prog_1_method_18_code
def yX7_tea : MethodName := ⟨RX7, "tea", "(IIZ)I"⟩
abbrev cX7_judge : ByteArray := prog_1_method_19_code
def yX7_judge : MethodName := ⟨RX7, "judge", "(II)I"⟩
abbrev cX7_share : ByteArray := prog_1_method_20_code
def yX7_share : MethodName := ⟨RX7, "share", "(IZ)I"⟩
abbrev cX7_gave : ByteArray := prog_1_method_21_code
def yX7_gave : MethodName := ⟨RX7, "gave", "(III)I"⟩
abbrev cX7_rests : ByteArray := prog_1_method_22_code
def yX7_rests : MethodName := ⟨RX7, "rests", "(IIII)I"⟩
abbrev cX7_asleep : ByteArray := prog_1_method_23_code
def yX7_asleep : MethodName := ⟨RX7, "asleep", "(IIIZ)I"⟩
abbrev cX7_seed : ByteArray := prog_1_method_24_code
def yX7_seed : MethodName := ⟨RX7, "seed", "(J)J"⟩
abbrev cX7_days : ByteArray := prog_1_method_25_code
def yX7_days : MethodName := ⟨RX7, "days", "(II)I"⟩
abbrev cX7_keep : ByteArray := prog_1_method_26_code
def yX7_keep : MethodName := ⟨RX7, "keep", "(I)I"⟩
abbrev cX7_again : ByteArray := prog_1_method_27_code
def yX7_again : MethodName := ⟨RX7, "again", "(I)I"⟩
abbrev cX7_count : ByteArray := prog_1_method_28_code
def yX7_count : MethodName := ⟨RX7, "count", "(I)I"⟩
abbrev cX7_refusalOfTwo : ByteArray := prog_1_method_29_code
def yX7_refusalOfTwo : MethodName := ⟨RX7, "refusalOfTwo", "(II)I"⟩
abbrev cX7_sum : ByteArray := prog_1_method_30_code
def yX7_sum : MethodName := ⟨RX7, "sum", "([II)I"⟩
abbrev cX7_power : ByteArray := prog_1_method_31_code
def yX7_power : MethodName := ⟨RX7, "power", "(II)I"⟩
abbrev cX7_tellFraction : ByteArray := prog_1_method_32_code
def yX7_tellFraction : MethodName := ⟨RX7, "tellFraction", "(IIZ)I"⟩
abbrev cX7_greatestDivisor : ByteArray := prog_1_method_33_code
def yX7_greatestDivisor : MethodName := ⟨RX7, "greatestDivisor", "(II)I"⟩
def RX8 : String := "EelLocksModel"
def TX8 : u_T := fun k => match k with
  | 0 => ("EelLocksModel", "locks", "I", false)
  | 1 => ("EelLocksModel", "barges", "I", false)
  | 2 => ("EelLocksModel", "longs", "[I", true)
  | 3 => ("EelLocksModel", "heavy", "[I", true)
  | 4 => ("EelLocksModel", "now", "[I", true)
  | 5 => ("EelLocksModel", "readLaw", "[I", true)
  | 6 => ("EelLocksModel", "readBarge", "[I", true)
  | 7 => ("EelLocksModel", "readLocks", "I", false)
  | 8 => ("EelLocksModel", "readBarges", "I", false)
  | 9 => ("EelLocksModel", "text", "[I", true)
  | 10 => ("EelLocksModel", "length", "I", false)
  | 11 => ("EelLocksModel", "at", "I", false)
  | 12 => ("EelLocksModel", "faultAt", "I", false)
  | 13 => ("EelLocksModel", "with", "[I", true)
  | 14 => ("EelLocksModel", "acts", "I", false)
  | 15 => ("EelLocksModel", "next", "I", false)
  | 16 => ("EelLocksModel", "row", "[I", true)
  | 17 => ("EelLocksModel", "greatests", "[I", true)
  | 18 => ("EelLocksModel", "ones16", "[I", true)
  | 19 => ("EelLocksModel", "others16", "[I", true)
  | 20 => ("EelLocksModel", "seed", "J", false)
  | 21 => ("EelLocksModel", "isKept", "[Z", true)
  | _ => ("EelLocksModel", "kept", "[I", true)
def tyX8 : Nat → FieldType := fun k => match k with
  | 0 => .int
  | 1 => .int
  | 2 => .array .int
  | 3 => .array .int
  | 4 => .array .int
  | 5 => .array .int
  | 6 => .array .int
  | 7 => .int
  | 8 => .int
  | 9 => .array .int
  | 10 => .int
  | 11 => .int
  | 12 => .int
  | 13 => .array .int
  | 14 => .int
  | 15 => .int
  | 16 => .array .int
  | 17 => .array .int
  | 18 => .array .int
  | 19 => .array .int
  | 20 => .long
  | 21 => .array .boolean
  | _ => .array .int
theorem nmX8 : ∀ a, a < 23 → ∀ b, b < 23 → a ≠ b → (TX8 a).2.1 ≠ (TX8 b).2.1 := by decide +kernel
theorem tyX8_ok : ∀ k, k < 23 → parseFieldDescriptor (TX8 k).2.2.1 = some (tyX8 k) := by decide +kernel
abbrev cX8_init : ByteArray := prog_10_method_1_code
def yX8_init : MethodName := ⟨RX8, "<init>", "()V"⟩
abbrev cX8_in : ByteArray := prog_10_method_3_code
def yX8_in : MethodName := ⟨RX8, "in", "(JJJ)Z"⟩
abbrev cX8_has : ByteArray := prog_10_method_4_code
def yX8_has : MethodName := ⟨RX8, "has", "(II)Z"⟩
abbrev cX8_ones : ByteArray := prog_10_method_5_code
def yX8_ones : MethodName := ⟨RX8, "ones", "(I)I"⟩
abbrev cX8_write : ByteArray := prog_10_method_6_code
def yX8_write : MethodName := ⟨RX8, "write", "(I)I"⟩
abbrev cX8_wipe : ByteArray := prog_10_method_7_code
def yX8_wipe : MethodName := ⟨RX8, "wipe", "()I"⟩
abbrev cX8_figure : ByteArray := prog_10_method_8_code
def yX8_figure : MethodName := ⟨RX8, "figure", "(II)I"⟩
abbrev cX8_readText : ByteArray := prog_10_method_9_code
def yX8_readText : MethodName := ⟨RX8, "readText", "()I"⟩
abbrev cX8_fault : ByteArray := prog_10_method_10_code
def yX8_fault : MethodName := ⟨RX8, "fault", "()I"⟩
abbrev cX8_canal : ByteArray := prog_10_method_11_code
def yX8_canal : MethodName := ⟨RX8, "canal", "()I"⟩
abbrev cX8_isBarge : ByteArray := prog_10_method_12_code
def yX8_isBarge : MethodName := ⟨RX8, "isBarge", "(I)Z"⟩
abbrev cX8_isLock : ByteArray := prog_10_method_13_code
def yX8_isLock : MethodName := ⟨RX8, "isLock", "(I)Z"⟩
abbrev cX8_placeOf : ByteArray := prog_10_method_14_code
def yX8_placeOf : MethodName := ⟨RX8, "placeOf", "(III)I"⟩
abbrev cX8_barge : ByteArray := prog_10_method_15_code
def yX8_barge : MethodName := ⟨RX8, "barge", "(II)I"⟩
abbrev cX8_givenAt : ByteArray := prog_10_method_16_code
def yX8_givenAt : MethodName := ⟨RX8, "givenAt", "(I)I"⟩
abbrev cX8_lock : ByteArray := prog_10_method_17_code
def yX8_lock : MethodName := ⟨RX8, "lock", "(II)I"⟩
abbrev cX8_isChanged : ByteArray := prog_10_method_18_code
def yX8_isChanged : MethodName := ⟨RX8, "isChanged", "(IIII)Z"⟩
abbrev cX8_more : ByteArray := prog_10_method_19_code
def yX8_more : MethodName := ⟨RX8, "more", "(II)I"⟩
abbrev cX8_passOn : ByteArray := prog_10_method_20_code
def yX8_passOn : MethodName := ⟨RX8, "passOn", "(II)V"⟩
abbrev cX8_figuresOf : ByteArray := prog_10_method_21_code
def yX8_figuresOf : MethodName := ⟨RX8, "figuresOf", "(II)I"⟩
abbrev cX8_keepAct : ByteArray := prog_10_method_22_code
def yX8_keepAct : MethodName := ⟨RX8, "keepAct", "()V"⟩
abbrev cX8_pass : ByteArray := prog_10_method_23_code
def yX8_pass : MethodName := ⟨RX8, "pass", "()I"⟩
abbrev cX8_give : ByteArray := prog_10_method_24_code
def yX8_give : MethodName := ⟨RX8, "give", "(II)I"⟩
abbrev cX8_letBy : ByteArray := prog_10_method_25_code
def yX8_letBy : MethodName := ⟨RX8, "letBy", "(I)I"⟩
abbrev cX8_learn : ByteArray := prog_10_method_26_code
def yX8_learn : MethodName := ⟨RX8, "learn", "(II)I"⟩
abbrev cX8_undo : ByteArray := prog_10_method_27_code
def yX8_undo : MethodName := ⟨RX8, "undo", "()I"⟩
abbrev cX8_layTrial : ByteArray := prog_10_method_28_code
def yX8_layTrial : MethodName := ⟨RX8, "layTrial", "()V"⟩
abbrev cX8_passAll : ByteArray := prog_10_method_29_code
def yX8_passAll : MethodName := ⟨RX8, "passAll", "(I)V"⟩
abbrev cX8_layBasin : ByteArray := prog_10_method_30_code
def yX8_layBasin : MethodName := ⟨RX8, "layBasin", "()V"⟩
abbrev cX8_basin : ByteArray := prog_10_method_31_code
def yX8_basin : MethodName := ⟨RX8, "basin", "()I"⟩
abbrev cX8_hour : ByteArray := prog_10_method_32_code
def yX8_hour : MethodName := ⟨RX8, "hour", "(I)I"⟩
abbrev cX8_gains : ByteArray := prog_10_method_33_code
def yX8_gains : MethodName := ⟨RX8, "gains", "(I)I"⟩
abbrev cX8_mates : ByteArray := prog_10_method_34_code
def yX8_mates : MethodName := ⟨RX8, "mates", "(I)I"⟩
abbrev cX8_isSo : ByteArray := prog_10_method_35_code
def yX8_isSo : MethodName := ⟨RX8, "isSo", "(II)Z"⟩
abbrev cX8_factorial : ByteArray := prog_10_method_36_code
def yX8_factorial : MethodName := ⟨RX8, "factorial", "(I)I"⟩
abbrev cX8_layOrder : ByteArray := prog_10_method_37_code
def yX8_layOrder : MethodName := ⟨RX8, "layOrder", "(I)V"⟩
abbrev cX8_first : ByteArray := prog_10_method_38_code
def yX8_first : MethodName := ⟨RX8, "first", "(II)I"⟩
abbrev cX8_giveTrial : ByteArray := prog_10_method_39_code
def yX8_giveTrial : MethodName := ⟨RX8, "giveTrial", "(II)Z"⟩
abbrev cX8_tea : ByteArray := prog_10_method_40_code
def yX8_tea : MethodName := ⟨RX8, "tea", "(IIZ)I"⟩
abbrev cX8_tenTo : ByteArray := prog_10_method_41_code
def yX8_tenTo : MethodName := ⟨RX8, "tenTo", "(I)I"⟩
abbrev cX8_judge : ByteArray := prog_10_method_42_code
def yX8_judge : MethodName := ⟨RX8, "judge", "(II)I"⟩
abbrev cX8_greatest : ByteArray := prog_10_method_43_code
def yX8_greatest : MethodName := ⟨RX8, "greatest", "(II)I"⟩
abbrev cX8_hoursBy : ByteArray := prog_10_method_44_code
def yX8_hoursBy : MethodName := ⟨RX8, "hoursBy", "(I)I"⟩
abbrev cX8_common : ByteArray := prog_10_method_45_code
def yX8_common : MethodName := ⟨RX8, "common", "(II)I"⟩
abbrev cX8_share : ByteArray := prog_10_method_46_code
def yX8_share : MethodName := ⟨RX8, "share", "(IZ)I"⟩
abbrev cX8_isOrder : ByteArray := prog_10_method_47_code
def yX8_isOrder : MethodName := ⟨RX8, "isOrder", "(I)Z"⟩
abbrev cX8_comesSo : ByteArray := prog_10_method_48_code
def yX8_comesSo : MethodName := ⟨RX8, "comesSo", "(III)Z"⟩
abbrev cX8_gave : ByteArray := prog_10_method_49_code
def yX8_gave : MethodName := ⟨RX8, "gave", "(III)I"⟩
abbrev cX8_layLosses : ByteArray := prog_10_method_50_code
def yX8_layLosses : MethodName := ⟨RX8, "layLosses", "(III)V"⟩
abbrev cX8_isRest : ByteArray := prog_10_method_51_code
def yX8_isRest : MethodName := ⟨RX8, "isRest", "(I)Z"⟩
abbrev cX8_rests : ByteArray := prog_10_method_52_code
def yX8_rests : MethodName := ⟨RX8, "rests", "(IIII)I"⟩
abbrev cX8_asleep : ByteArray := prog_10_method_53_code
def yX8_asleep : MethodName := ⟨RX8, "asleep", "(IIIZ)I"⟩
abbrev cX8_seed : ByteArray := prog_10_method_54_code
def yX8_seed : MethodName := ⟨RX8, "seed", "(J)J"⟩
abbrev cX8_days : ByteArray := prog_10_method_55_code
def yX8_days : MethodName := ⟨RX8, "days", "(II)I"⟩
abbrev cX8_isFirst : ByteArray := prog_10_method_56_code
def yX8_isFirst : MethodName := ⟨RX8, "isFirst", "(I)Z"⟩
abbrev cX8_keep : ByteArray := prog_10_method_57_code
def yX8_keep : MethodName := ⟨RX8, "keep", "(I)I"⟩
abbrev cX8_again : ByteArray := prog_10_method_58_code
def yX8_again : MethodName := ⟨RX8, "again", "(I)I"⟩
abbrev cX8_sumOf : ByteArray := prog_10_method_59_code
def yX8_sumOf : MethodName := ⟨RX8, "sumOf", "(II)I"⟩
abbrev cX8_count : ByteArray := prog_10_method_60_code
def yX8_count : MethodName := ⟨RX8, "count", "(I)I"⟩
def RJ6 : String := "java/lang/Integer"
def TJ6 : u_T := fun k => match k with
  | _ => ("", "", "", false)
def tyJ6 : Nat → FieldType := fun k => match k with
  | _ => .int
theorem nmJ6 : ∀ a, a < 0 → ∀ b, b < 0 → a ≠ b → (TJ6 a).2.1 ≠ (TJ6 b).2.1 := by decide +kernel
theorem tyJ6_ok : ∀ k, k < 0 → parseFieldDescriptor (TJ6 k).2.2.1 = some (tyJ6 k) := by decide +kernel
abbrev cJ6_bitCount_0f7a4 : ByteArray := prog_11_method_49_code
def yJ6_bitCount_0f7a4 : MethodName := ⟨RJ6, "bitCount", "(I)I"⟩
def RJ9 : String := "java/lang/Math"
def TJ9 : u_T := fun k => match k with
  | _ => ("", "", "", false)
def tyJ9 : Nat → FieldType := fun k => match k with
  | _ => .int
theorem nmJ9 : ∀ a, a < 0 → ∀ b, b < 0 → a ≠ b → (TJ9 a).2.1 ≠ (TJ9 b).2.1 := by decide +kernel
theorem tyJ9_ok : ∀ k, k < 0 → parseFieldDescriptor (TJ9 k).2.2.1 = some (tyJ9 k) := by decide +kernel
abbrev cJ9_abs_0f7a4 : ByteArray := prog_12_method_59_code
def yJ9_abs_0f7a4 : MethodName := ⟨RJ9, "abs", "(I)I"⟩
abbrev cJ9_max_7cf53 : ByteArray := prog_12_method_65_code
def yJ9_max_7cf53 : MethodName := ⟨RJ9, "max", "(II)I"⟩
def RJ10 : String := "java/lang/System"
def TJ10 : u_T := fun k => match k with
  | _ => ("", "", "", false)
def tyJ10 : Nat → FieldType := fun k => match k with
  | _ => .int
theorem nmJ10 : ∀ a, a < 0 → ∀ b, b < 0 → a ≠ b → (TJ10 a).2.1 ≠ (TJ10 b).2.1 := by decide +kernel
theorem tyJ10_ok : ∀ k, k < 0 → parseFieldDescriptor (TJ10 k).2.2.1 = some (tyJ10 k) := by decide +kernel
def RL : String := "EelLocksLaw"
abbrev cL_law : ByteArray := code
def yL_law : MethodName := ⟨RL, "law", "([I)Z"⟩
end
section
def goodW0 (w : Cond) : Bool := match w with
  | .methodLinkNest _ _ _ _ => true
  | .fieldLinkNest _ _ _ _ _ _ => true
  | w => goodWord w
theorem mem_pl {big ws : List Cond} (ps : List Nat) (h : ws = ps.filterMap (fun i => big[i]?)) : ∀ w ∈ ws, w ∈ big := by
  intro w hw
  rw [h] at hw
  obtain ⟨i, -, hi⟩ := List.mem_filterMap.mp hw
  exact List.mem_of_getElem? hi
theorem tS_yX7_refusalOfTwo : Cond.selects RX7 yX7_refusalOfTwo yX7_refusalOfTwo ∈ lw_tbl := List.mem_of_getElem? (i := 0) (by decide +kernel)
theorem tS_yX3_suits : Cond.selects RX3 yX3_suits yX3_suits ∈ lw_tbl := List.mem_of_getElem? (i := 1) (by decide +kernel)
theorem tS_yX3_makeNextOrder : Cond.selects RX3 yX3_makeNextOrder yX3_makeNextOrder ∈ lw_tbl := List.mem_of_getElem? (i := 2) (by decide +kernel)
theorem tS_yX3_exchange : Cond.selects RX3 yX3_exchange yX3_exchange ∈ lw_tbl := List.mem_of_getElem? (i := 3) (by decide +kernel)
theorem tS_yX3_suitsWith : Cond.selects RX3 yX3_suitsWith yX3_suitsWith ∈ lw_tbl := List.mem_of_getElem? (i := 4) (by decide +kernel)
theorem tS_yX3_canGive : Cond.selects RX3 yX3_canGive yX3_canGive ∈ lw_tbl := List.mem_of_getElem? (i := 5) (by decide +kernel)
theorem tS_yX3_canGiveBoth : Cond.selects RX3 yX3_canGiveBoth yX3_canGiveBoth ∈ lw_tbl := List.mem_of_getElem? (i := 6) (by decide +kernel)
theorem tS_yX3_lastHourOf : Cond.selects RX3 yX3_lastHourOf yX3_lastHourOf ∈ lw_tbl := List.mem_of_getElem? (i := 7) (by decide +kernel)
theorem tS_yX2_comesOutSo : Cond.selects RX2 yX2_comesOutSo yX2_comesOutSo ∈ lw_tbl := List.mem_of_getElem? (i := 8) (by decide +kernel)
theorem tS_yX2_addGivers : Cond.selects RX2 yX2_addGivers yX2_addGivers ∈ lw_tbl := List.mem_of_getElem? (i := 9) (by decide +kernel)
theorem tS_yX2_findLosses : Cond.selects RX2 yX2_findLosses yX2_findLosses ∈ lw_tbl := List.mem_of_getElem? (i := 10) (by decide +kernel)
theorem tS_yX2_isAtRest : Cond.selects RX2 yX2_isAtRest yX2_isAtRest ∈ lw_tbl := List.mem_of_getElem? (i := 11) (by decide +kernel)
theorem tS_yX2_isAtWith : Cond.selects RX2 yX2_isAtWith yX2_isAtWith ∈ lw_tbl := List.mem_of_getElem? (i := 12) (by decide +kernel)
theorem tS_yX8_readText : Cond.selects RX8 yX8_readText yX8_readText ∈ lw_tbl := List.mem_of_getElem? (i := 13) (by decide +kernel)
theorem tS_yX8_figure : Cond.selects RX8 yX8_figure yX8_figure ∈ lw_tbl := List.mem_of_getElem? (i := 14) (by decide +kernel)
theorem tS_yX8_isBarge : Cond.selects RX8 yX8_isBarge yX8_isBarge ∈ lw_tbl := List.mem_of_getElem? (i := 15) (by decide +kernel)
theorem tS_yX8_placeOf : Cond.selects RX8 yX8_placeOf yX8_placeOf ∈ lw_tbl := List.mem_of_getElem? (i := 16) (by decide +kernel)
theorem tS_yX8_isLock : Cond.selects RX8 yX8_isLock yX8_isLock ∈ lw_tbl := List.mem_of_getElem? (i := 17) (by decide +kernel)
theorem tS_yX8_givenAt : Cond.selects RX8 yX8_givenAt yX8_givenAt ∈ lw_tbl := List.mem_of_getElem? (i := 18) (by decide +kernel)
theorem tS_yX8_keepAct : Cond.selects RX8 yX8_keepAct yX8_keepAct ∈ lw_tbl := List.mem_of_getElem? (i := 19) (by decide +kernel)
theorem tS_yX8_passOn : Cond.selects RX8 yX8_passOn yX8_passOn ∈ lw_tbl := List.mem_of_getElem? (i := 20) (by decide +kernel)
theorem tS_yX8_isChanged : Cond.selects RX8 yX8_isChanged yX8_isChanged ∈ lw_tbl := List.mem_of_getElem? (i := 21) (by decide +kernel)
theorem tS_yX8_figuresOf : Cond.selects RX8 yX8_figuresOf yX8_figuresOf ∈ lw_tbl := List.mem_of_getElem? (i := 22) (by decide +kernel)
theorem tS_yX8_layBasin : Cond.selects RX8 yX8_layBasin yX8_layBasin ∈ lw_tbl := List.mem_of_getElem? (i := 23) (by decide +kernel)
theorem tS_yX8_layTrial : Cond.selects RX8 yX8_layTrial yX8_layTrial ∈ lw_tbl := List.mem_of_getElem? (i := 24) (by decide +kernel)
theorem tS_yX8_passAll : Cond.selects RX8 yX8_passAll yX8_passAll ∈ lw_tbl := List.mem_of_getElem? (i := 25) (by decide +kernel)
theorem tS_yX8_layOrder : Cond.selects RX8 yX8_layOrder yX8_layOrder ∈ lw_tbl := List.mem_of_getElem? (i := 26) (by decide +kernel)
theorem tS_yX8_isSo : Cond.selects RX8 yX8_isSo yX8_isSo ∈ lw_tbl := List.mem_of_getElem? (i := 27) (by decide +kernel)
theorem tS_yX8_giveTrial : Cond.selects RX8 yX8_giveTrial yX8_giveTrial ∈ lw_tbl := List.mem_of_getElem? (i := 28) (by decide +kernel)
theorem tS_yX8_hoursBy : Cond.selects RX8 yX8_hoursBy yX8_hoursBy ∈ lw_tbl := List.mem_of_getElem? (i := 29) (by decide +kernel)
theorem tS_yX8_greatest : Cond.selects RX8 yX8_greatest yX8_greatest ∈ lw_tbl := List.mem_of_getElem? (i := 30) (by decide +kernel)
theorem tS_yX8_isOrder : Cond.selects RX8 yX8_isOrder yX8_isOrder ∈ lw_tbl := List.mem_of_getElem? (i := 31) (by decide +kernel)
theorem tS_yX8_comesSo : Cond.selects RX8 yX8_comesSo yX8_comesSo ∈ lw_tbl := List.mem_of_getElem? (i := 32) (by decide +kernel)
theorem tS_yX8_layLosses : Cond.selects RX8 yX8_layLosses yX8_layLosses ∈ lw_tbl := List.mem_of_getElem? (i := 33) (by decide +kernel)
theorem tS_yX8_isRest : Cond.selects RX8 yX8_isRest yX8_isRest ∈ lw_tbl := List.mem_of_getElem? (i := 34) (by decide +kernel)
theorem tS_yX8_isFirst : Cond.selects RX8 yX8_isFirst yX8_isFirst ∈ lw_tbl := List.mem_of_getElem? (i := 35) (by decide +kernel)
theorem tS_yX8_sumOf : Cond.selects RX8 yX8_sumOf yX8_sumOf ∈ lw_tbl := List.mem_of_getElem? (i := 36) (by decide +kernel)
theorem tN_RL : Cond.initialized RL ∈ lw_tbl := List.mem_of_getElem? (i := 37) (by decide +kernel)
theorem tN_RX7 : Cond.initialized RX7 ∈ lw_tbl := List.mem_of_getElem? (i := 38) (by decide +kernel)
theorem tN_RX6 : Cond.initialized RX6 ∈ lw_tbl := List.mem_of_getElem? (i := 39) (by decide +kernel)
theorem tN_RX1 : Cond.initialized RX1 ∈ lw_tbl := List.mem_of_getElem? (i := 40) (by decide +kernel)
theorem tN_RX5 : Cond.initialized RX5 ∈ lw_tbl := List.mem_of_getElem? (i := 41) (by decide +kernel)
theorem tN_RX0 : Cond.initialized RX0 ∈ lw_tbl := List.mem_of_getElem? (i := 42) (by decide +kernel)
theorem tN_RX4 : Cond.initialized RX4 ∈ lw_tbl := List.mem_of_getElem? (i := 43) (by decide +kernel)
theorem tN_RX3 : Cond.initialized RX3 ∈ lw_tbl := List.mem_of_getElem? (i := 44) (by decide +kernel)
theorem tN_RX2 : Cond.initialized RX2 ∈ lw_tbl := List.mem_of_getElem? (i := 45) (by decide +kernel)
theorem tN_RX8 : Cond.initialized RX8 ∈ lw_tbl := List.mem_of_getElem? (i := 46) (by decide +kernel)
theorem tN_RJ10 : Cond.initialized RJ10 ∈ lw_tbl := List.mem_of_getElem? (i := 47) (by decide +kernel)
theorem tN_RJ9 : Cond.initialized RJ9 ∈ lw_tbl := List.mem_of_getElem? (i := 48) (by decide +kernel)
theorem tN_RJ6 : Cond.initialized RJ6 ∈ lw_tbl := List.mem_of_getElem? (i := 49) (by decide +kernel)
theorem tL_RL_7 : Cond.classLink RL 7 RX7 ∈ lw_tbl := List.mem_of_getElem? (i := 50) (by decide +kernel)
theorem tB_RX7 : Cond.instantiable RX7 7 ∈ lw_tbl := List.mem_of_getElem? (i := 51) (by decide +kernel)
theorem tM_RL_9 : Cond.methodLink RL 9 yX7_init ∈ lw_tbl := List.mem_of_getElem? (i := 52) (by decide +kernel)
theorem tI_yX7_init : Cond.instanceMethod yX7_init ∈ lw_tbl := List.mem_of_getElem? (i := 53) (by decide +kernel)
theorem tC_yX7_init : Cond.code yX7_init cX7_init 1 (Option.none : Option Jvm.ClassFile.FieldType) ∈ lw_tbl := List.mem_of_getElem? (i := 54) (by decide +kernel)
theorem tM_RX7_1 : Cond.methodLink RX7 1 (⟨"java/lang/Object", "<init>", "()V"⟩ : MethodName) ∈ lw_tbl := List.mem_of_getElem? (i := 55) (by decide +kernel)
theorem tI_Object_init : Cond.instanceMethod (⟨"java/lang/Object", "<init>", "()V"⟩ : MethodName) ∈ lw_tbl := List.mem_of_getElem? (i := 56) (by decide +kernel)
theorem tL_RX7_7 : Cond.classLink RX7 7 RX6 ∈ lw_tbl := List.mem_of_getElem? (i := 58) (by decide +kernel)
theorem tB_RX6 : Cond.instantiable RX6 2 ∈ lw_tbl := List.mem_of_getElem? (i := 59) (by decide +kernel)
theorem tQ_RX7_9 : Cond.methodLinkNest RX7 9 yX6_init "EelLocks" ∈ lw_tbl := List.mem_of_getElem? (i := 60) (by decide +kernel)
theorem tI_yX6_init : Cond.instanceMethod yX6_init ∈ lw_tbl := List.mem_of_getElem? (i := 61) (by decide +kernel)
theorem tC_yX6_init : Cond.code yX6_init cX6_init 1 (Option.none : Option Jvm.ClassFile.FieldType) ∈ lw_tbl := List.mem_of_getElem? (i := 62) (by decide +kernel)
theorem tM_RX6_3 : Cond.methodLink RX6 3 (⟨"java/lang/Object", "<init>", "()V"⟩ : MethodName) ∈ lw_tbl := List.mem_of_getElem? (i := 63) (by decide +kernel)
theorem tF_RX6_9 : Cond.fieldLink RX6 9 "EelLocks$Text" "letters" "[I" ∈ lw_tbl := List.mem_of_getElem? (i := 64) (by decide +kernel)
theorem tF_RX1_43 : Cond.fieldLink RX1 43 "EelLocks$Text" "letters" "[I" ∈ lw_tbl := List.mem_of_getElem? (i := 65) (by decide +kernel)
theorem tF_RX6_15 : Cond.fieldLink RX6 15 "EelLocks$Text" "length" "I" ∈ lw_tbl := List.mem_of_getElem? (i := 66) (by decide +kernel)
theorem tF_RX7_51 : Cond.fieldLink RX7 51 "EelLocks$Text" "length" "I" ∈ lw_tbl := List.mem_of_getElem? (i := 67) (by decide +kernel)
theorem tF_RX1_38 : Cond.fieldLink RX1 38 "EelLocks$Text" "length" "I" ∈ lw_tbl := List.mem_of_getElem? (i := 68) (by decide +kernel)
theorem tA_I : Cond.arrayClass .int ∈ lw_tbl := List.mem_of_getElem? (i := 74) (by decide +kernel)
theorem tL_RX7_16 : Cond.classLink RX7 16 RX1 ∈ lw_tbl := List.mem_of_getElem? (i := 75) (by decide +kernel)
theorem tB_RX1 : Cond.instantiable RX1 6 ∈ lw_tbl := List.mem_of_getElem? (i := 76) (by decide +kernel)
theorem tQ_RX7_18 : Cond.methodLinkNest RX7 18 yX1_init "EelLocks" ∈ lw_tbl := List.mem_of_getElem? (i := 77) (by decide +kernel)
theorem tI_yX1_init : Cond.instanceMethod yX1_init ∈ lw_tbl := List.mem_of_getElem? (i := 78) (by decide +kernel)
theorem tC_yX1_init : Cond.code yX1_init cX1_init 1 (Option.none : Option Jvm.ClassFile.FieldType) ∈ lw_tbl := List.mem_of_getElem? (i := 79) (by decide +kernel)
theorem tM_RX1_3 : Cond.methodLink RX1 3 (⟨"java/lang/Object", "<init>", "()V"⟩ : MethodName) ∈ lw_tbl := List.mem_of_getElem? (i := 80) (by decide +kernel)
theorem tL_RX1_18 : Cond.classLink RX1 18 RX5 ∈ lw_tbl := List.mem_of_getElem? (i := 81) (by decide +kernel)
theorem tB_RX5 : Cond.instantiable RX5 7 ∈ lw_tbl := List.mem_of_getElem? (i := 82) (by decide +kernel)
theorem tQ_RX1_20 : Cond.methodLinkNest RX1 20 yX5_init "EelLocks" ∈ lw_tbl := List.mem_of_getElem? (i := 83) (by decide +kernel)
theorem tI_yX5_init : Cond.instanceMethod yX5_init ∈ lw_tbl := List.mem_of_getElem? (i := 84) (by decide +kernel)
theorem tC_yX5_init : Cond.code yX5_init cX5_init 1 (Option.none : Option Jvm.ClassFile.FieldType) ∈ lw_tbl := List.mem_of_getElem? (i := 85) (by decide +kernel)
theorem tM_RX5_3 : Cond.methodLink RX5 3 (⟨"java/lang/Object", "<init>", "()V"⟩ : MethodName) ∈ lw_tbl := List.mem_of_getElem? (i := 86) (by decide +kernel)
theorem tF_RX5_9 : Cond.fieldLink RX5 9 "EelLocks$State" "row" "[I" ∈ lw_tbl := List.mem_of_getElem? (i := 87) (by decide +kernel)
theorem tF_RX1_56 : Cond.fieldLink RX1 56 "EelLocks$State" "row" "[I" ∈ lw_tbl := List.mem_of_getElem? (i := 88) (by decide +kernel)
theorem tF_RX3_51 : Cond.fieldLink RX3 51 "EelLocks$State" "row" "[I" ∈ lw_tbl := List.mem_of_getElem? (i := 89) (by decide +kernel)
theorem tF_RX5_15 : Cond.fieldLink RX5 15 "EelLocks$State" "hours" "[I" ∈ lw_tbl := List.mem_of_getElem? (i := 90) (by decide +kernel)
theorem tF_RX7_101 : Cond.fieldLink RX7 101 "EelLocks$State" "hours" "[I" ∈ lw_tbl := List.mem_of_getElem? (i := 91) (by decide +kernel)
theorem tF_RX1_88 : Cond.fieldLink RX1 88 "EelLocks$State" "hours" "[I" ∈ lw_tbl := List.mem_of_getElem? (i := 92) (by decide +kernel)
theorem tF_RX5_18 : Cond.fieldLink RX5 18 "EelLocks$State" "tea" "[I" ∈ lw_tbl := List.mem_of_getElem? (i := 93) (by decide +kernel)
theorem tF_RX1_53 : Cond.fieldLink RX1 53 "EelLocks$State" "tea" "[I" ∈ lw_tbl := List.mem_of_getElem? (i := 94) (by decide +kernel)
theorem tF_RX7_92 : Cond.fieldLink RX7 92 "EelLocks$State" "tea" "[I" ∈ lw_tbl := List.mem_of_getElem? (i := 95) (by decide +kernel)
theorem tF_RX3_109 : Cond.fieldLink RX3 109 "EelLocks$State" "tea" "[I" ∈ lw_tbl := List.mem_of_getElem? (i := 96) (by decide +kernel)
theorem tF_RX5_21 : Cond.fieldLink RX5 21 "EelLocks$State" "laws" "[I" ∈ lw_tbl := List.mem_of_getElem? (i := 97) (by decide +kernel)
theorem tF_RX1_46 : Cond.fieldLink RX1 46 "EelLocks$State" "laws" "[I" ∈ lw_tbl := List.mem_of_getElem? (i := 98) (by decide +kernel)
theorem tF_RX2_41 : Cond.fieldLink RX2 41 "EelLocks$State" "laws" "[I" ∈ lw_tbl := List.mem_of_getElem? (i := 99) (by decide +kernel)
theorem tF_RX7_107 : Cond.fieldLink RX7 107 "EelLocks$State" "laws" "[I" ∈ lw_tbl := List.mem_of_getElem? (i := 100) (by decide +kernel)
theorem tF_RX5_24 : Cond.fieldLink RX5 24 "EelLocks$State" "given" "[I" ∈ lw_tbl := List.mem_of_getElem? (i := 101) (by decide +kernel)
theorem tF_RX7_254 : Cond.fieldLink RX7 254 "EelLocks$State" "given" "[I" ∈ lw_tbl := List.mem_of_getElem? (i := 102) (by decide +kernel)
theorem tF_RX5_33 : Cond.fieldLink RX5 33 "EelLocks$State" "size" "I" ∈ lw_tbl := List.mem_of_getElem? (i := 103) (by decide +kernel)
theorem tF_RX1_59 : Cond.fieldLink RX1 59 "EelLocks$State" "size" "I" ∈ lw_tbl := List.mem_of_getElem? (i := 104) (by decide +kernel)
theorem tF_RX3_134 : Cond.fieldLink RX3 134 "EelLocks$State" "size" "I" ∈ lw_tbl := List.mem_of_getElem? (i := 105) (by decide +kernel)
theorem tF_RX3_24 : Cond.fieldLink RX3 24 "EelLocks$State" "passed" "I" ∈ lw_tbl := List.mem_of_getElem? (i := 106) (by decide +kernel)
theorem tF_RX5_37 : Cond.fieldLink RX5 37 "EelLocks$State" "passed" "I" ∈ lw_tbl := List.mem_of_getElem? (i := 107) (by decide +kernel)
theorem tF_RX1_62 : Cond.fieldLink RX1 62 "EelLocks$State" "passed" "I" ∈ lw_tbl := List.mem_of_getElem? (i := 108) (by decide +kernel)
theorem tF_RX2_95 : Cond.fieldLink RX2 95 "EelLocks$State" "passed" "I" ∈ lw_tbl := List.mem_of_getElem? (i := 109) (by decide +kernel)
theorem tF_RX7_236 : Cond.fieldLink RX7 236 "EelLocks$State" "passed" "I" ∈ lw_tbl := List.mem_of_getElem? (i := 110) (by decide +kernel)
theorem tF_RX1_9 : Cond.fieldLink RX1 9 "EelLocks$Canal" "lengths" "[I" ∈ lw_tbl := List.mem_of_getElem? (i := 126) (by decide +kernel)
theorem tF_RX7_81 : Cond.fieldLink RX7 81 "EelLocks$Canal" "lengths" "[I" ∈ lw_tbl := List.mem_of_getElem? (i := 127) (by decide +kernel)
theorem tF_RX1_15 : Cond.fieldLink RX1 15 "EelLocks$Canal" "weights" "[I" ∈ lw_tbl := List.mem_of_getElem? (i := 128) (by decide +kernel)
theorem tF_RX7_85 : Cond.fieldLink RX7 85 "EelLocks$Canal" "weights" "[I" ∈ lw_tbl := List.mem_of_getElem? (i := 129) (by decide +kernel)
theorem tF_RX1_21 : Cond.fieldLink RX1 21 "EelLocks$Canal" "now" "LEelLocks$State;" ∈ lw_tbl := List.mem_of_getElem? (i := 130) (by decide +kernel)
theorem tF_RX7_88 : Cond.fieldLink RX7 88 "EelLocks$Canal" "now" "LEelLocks$State;" ∈ lw_tbl := List.mem_of_getElem? (i := 131) (by decide +kernel)
theorem tF_RX3_105 : Cond.fieldLink RX3 105 "EelLocks$Canal" "now" "LEelLocks$State;" ∈ lw_tbl := List.mem_of_getElem? (i := 132) (by decide +kernel)
theorem tF_RX1_25 : Cond.fieldLink RX1 25 "EelLocks$Canal" "trial" "LEelLocks$State;" ∈ lw_tbl := List.mem_of_getElem? (i := 133) (by decide +kernel)
theorem tF_RX1_28 : Cond.fieldLink RX1 28 "EelLocks$Canal" "locks" "I" ∈ lw_tbl := List.mem_of_getElem? (i := 134) (by decide +kernel)
theorem tF_RX3_30 : Cond.fieldLink RX3 30 "EelLocks$Canal" "locks" "I" ∈ lw_tbl := List.mem_of_getElem? (i := 135) (by decide +kernel)
theorem tF_RX7_71 : Cond.fieldLink RX7 71 "EelLocks$Canal" "locks" "I" ∈ lw_tbl := List.mem_of_getElem? (i := 136) (by decide +kernel)
theorem tF_RX2_73 : Cond.fieldLink RX2 73 "EelLocks$Canal" "locks" "I" ∈ lw_tbl := List.mem_of_getElem? (i := 137) (by decide +kernel)
theorem tF_RX2_18 : Cond.fieldLink RX2 18 "EelLocks$Canal" "barges" "I" ∈ lw_tbl := List.mem_of_getElem? (i := 138) (by decide +kernel)
theorem tF_RX1_32 : Cond.fieldLink RX1 32 "EelLocks$Canal" "barges" "I" ∈ lw_tbl := List.mem_of_getElem? (i := 139) (by decide +kernel)
theorem tF_RX3_45 : Cond.fieldLink RX3 45 "EelLocks$Canal" "barges" "I" ∈ lw_tbl := List.mem_of_getElem? (i := 140) (by decide +kernel)
theorem tF_RX7_74 : Cond.fieldLink RX7 74 "EelLocks$Canal" "barges" "I" ∈ lw_tbl := List.mem_of_getElem? (i := 141) (by decide +kernel)
theorem tL_RX7_23 : Cond.classLink RX7 23 RX0 ∈ lw_tbl := List.mem_of_getElem? (i := 155) (by decide +kernel)
theorem tB_RX0 : Cond.instantiable RX0 3 ∈ lw_tbl := List.mem_of_getElem? (i := 156) (by decide +kernel)
theorem tM_RX7_25 : Cond.methodLink RX7 25 yX0_init ∈ lw_tbl := List.mem_of_getElem? (i := 157) (by decide +kernel)
theorem tI_yX0_init : Cond.instanceMethod yX0_init ∈ lw_tbl := List.mem_of_getElem? (i := 158) (by decide +kernel)
theorem tC_yX0_init : Cond.code yX0_init cX0_init 2 (Option.none : Option Jvm.ClassFile.FieldType) ∈ lw_tbl := List.mem_of_getElem? (i := 159) (by decide +kernel)
theorem tM_RX0_3 : Cond.methodLink RX0 3 (⟨"java/lang/Object", "<init>", "()V"⟩ : MethodName) ∈ lw_tbl := List.mem_of_getElem? (i := 160) (by decide +kernel)
theorem tL_RX0_9 : Cond.classLink RX0 9 RX5 ∈ lw_tbl := List.mem_of_getElem? (i := 161) (by decide +kernel)
theorem tA_O : Cond.arrayOver (.object "EelLocks$State") ∈ lw_tbl := List.mem_of_getElem? (i := 162) (by decide +kernel)
theorem tQ_RX0_17 : Cond.methodLinkNest RX0 17 yX5_init "EelLocks" ∈ lw_tbl := List.mem_of_getElem? (i := 163) (by decide +kernel)
theorem tF_RX0_11 : Cond.fieldLink RX0 11 "EelLocks$Acts" "before" "[LEelLocks$State;" ∈ lw_tbl := List.mem_of_getElem? (i := 164) (by decide +kernel)
theorem tF_RX0_18 : Cond.fieldLink RX0 18 "EelLocks$Acts" "oldest" "I" ∈ lw_tbl := List.mem_of_getElem? (i := 165) (by decide +kernel)
theorem tF_RX0_22 : Cond.fieldLink RX0 22 "EelLocks$Acts" "size" "I" ∈ lw_tbl := List.mem_of_getElem? (i := 166) (by decide +kernel)
theorem tF_RX7_140 : Cond.fieldLink RX7 140 "EelLocks$Acts" "size" "I" ∈ lw_tbl := List.mem_of_getElem? (i := 167) (by decide +kernel)
theorem tL_RX7_30 : Cond.classLink RX7 30 RX4 ∈ lw_tbl := List.mem_of_getElem? (i := 175) (by decide +kernel)
theorem tB_RX4 : Cond.instantiable RX4 2 ∈ lw_tbl := List.mem_of_getElem? (i := 176) (by decide +kernel)
theorem tM_RX7_32 : Cond.methodLink RX7 32 yX4_init ∈ lw_tbl := List.mem_of_getElem? (i := 177) (by decide +kernel)
theorem tI_yX4_init : Cond.instanceMethod yX4_init ∈ lw_tbl := List.mem_of_getElem? (i := 178) (by decide +kernel)
theorem tC_yX4_init : Cond.code yX4_init cX4_init 2 (Option.none : Option Jvm.ClassFile.FieldType) ∈ lw_tbl := List.mem_of_getElem? (i := 179) (by decide +kernel)
theorem tM_RX4_3 : Cond.methodLink RX4 3 (⟨"java/lang/Object", "<init>", "()V"⟩ : MethodName) ∈ lw_tbl := List.mem_of_getElem? (i := 180) (by decide +kernel)
theorem tL_RX4_9 : Cond.classLink RX4 9 RX5 ∈ lw_tbl := List.mem_of_getElem? (i := 181) (by decide +kernel)
theorem tQ_RX4_21 : Cond.methodLinkNest RX4 21 yX5_init "EelLocks" ∈ lw_tbl := List.mem_of_getElem? (i := 182) (by decide +kernel)
theorem tF_RX4_11 : Cond.fieldLink RX4 11 "EelLocks$Slots" "states" "[LEelLocks$State;" ∈ lw_tbl := List.mem_of_getElem? (i := 183) (by decide +kernel)
theorem tF_RX7_243 : Cond.fieldLink RX7 243 "EelLocks$Slots" "states" "[LEelLocks$State;" ∈ lw_tbl := List.mem_of_getElem? (i := 184) (by decide +kernel)
theorem tF_RX4_17 : Cond.fieldLink RX4 17 "EelLocks$Slots" "isKept" "[Z" ∈ lw_tbl := List.mem_of_getElem? (i := 185) (by decide +kernel)
theorem tF_RX7_239 : Cond.fieldLink RX7 239 "EelLocks$Slots" "isKept" "[Z" ∈ lw_tbl := List.mem_of_getElem? (i := 186) (by decide +kernel)
theorem tA_Z : Cond.arrayClass .boolean ∈ lw_tbl := List.mem_of_getElem? (i := 192) (by decide +kernel)
theorem tL_RX7_37 : Cond.classLink RX7 37 RX3 ∈ lw_tbl := List.mem_of_getElem? (i := 193) (by decide +kernel)
theorem tB_RX3 : Cond.instantiable RX3 2 ∈ lw_tbl := List.mem_of_getElem? (i := 194) (by decide +kernel)
theorem tQ_RX7_39 : Cond.methodLinkNest RX7 39 yX3_init "EelLocks" ∈ lw_tbl := List.mem_of_getElem? (i := 195) (by decide +kernel)
theorem tI_yX3_init : Cond.instanceMethod yX3_init ∈ lw_tbl := List.mem_of_getElem? (i := 196) (by decide +kernel)
theorem tC_yX3_init : Cond.code yX3_init cX3_init 1 (Option.none : Option Jvm.ClassFile.FieldType) ∈ lw_tbl := List.mem_of_getElem? (i := 197) (by decide +kernel)
theorem tM_RX3_3 : Cond.methodLink RX3 3 (⟨"java/lang/Object", "<init>", "()V"⟩ : MethodName) ∈ lw_tbl := List.mem_of_getElem? (i := 198) (by decide +kernel)
theorem tF_RX3_9 : Cond.fieldLink RX3 9 "EelLocks$Outlook" "order" "[I" ∈ lw_tbl := List.mem_of_getElem? (i := 199) (by decide +kernel)
theorem tF_RX3_15 : Cond.fieldLink RX3 15 "EelLocks$Outlook" "figures" "[I" ∈ lw_tbl := List.mem_of_getElem? (i := 200) (by decide +kernel)
theorem tL_RX7_44 : Cond.classLink RX7 44 RX2 ∈ lw_tbl := List.mem_of_getElem? (i := 206) (by decide +kernel)
theorem tB_RX2 : Cond.instantiable RX2 6 ∈ lw_tbl := List.mem_of_getElem? (i := 207) (by decide +kernel)
theorem tQ_RX7_46 : Cond.methodLinkNest RX7 46 yX2_init "EelLocks" ∈ lw_tbl := List.mem_of_getElem? (i := 208) (by decide +kernel)
theorem tI_yX2_init : Cond.instanceMethod yX2_init ∈ lw_tbl := List.mem_of_getElem? (i := 209) (by decide +kernel)
theorem tC_yX2_init : Cond.code yX2_init cX2_init 1 (Option.none : Option Jvm.ClassFile.FieldType) ∈ lw_tbl := List.mem_of_getElem? (i := 210) (by decide +kernel)
theorem tM_RX2_3 : Cond.methodLink RX2 3 (⟨"java/lang/Object", "<init>", "()V"⟩ : MethodName) ∈ lw_tbl := List.mem_of_getElem? (i := 211) (by decide +kernel)
theorem tF_RX2_11 : Cond.fieldLink RX2 11 "EelLocks$Guesses" "lossOfOne" "[I" ∈ lw_tbl := List.mem_of_getElem? (i := 212) (by decide +kernel)
theorem tF_RX2_15 : Cond.fieldLink RX2 15 "EelLocks$Guesses" "lossOfOther" "[I" ∈ lw_tbl := List.mem_of_getElem? (i := 213) (by decide +kernel)
theorem tF_RX2_24 : Cond.fieldLink RX2 24 "EelLocks$Guesses" "found" "I" ∈ lw_tbl := List.mem_of_getElem? (i := 214) (by decide +kernel)
theorem tF_RX7_195 : Cond.fieldLink RX7 195 "EelLocks$Guesses" "found" "I" ∈ lw_tbl := List.mem_of_getElem? (i := 215) (by decide +kernel)
theorem tF_RX2_27 : Cond.fieldLink RX2 27 "EelLocks$Guesses" "inAll" "I" ∈ lw_tbl := List.mem_of_getElem? (i := 216) (by decide +kernel)
theorem tF_RX7_198 : Cond.fieldLink RX7 198 "EelLocks$Guesses" "inAll" "I" ∈ lw_tbl := List.mem_of_getElem? (i := 217) (by decide +kernel)
theorem tF_RX2_34 : Cond.fieldLink RX2 34 "EelLocks$Guesses" "inNone" "I" ∈ lw_tbl := List.mem_of_getElem? (i := 218) (by decide +kernel)
theorem tF_RX7_201 : Cond.fieldLink RX7 201 "EelLocks$Guesses" "inNone" "I" ∈ lw_tbl := List.mem_of_getElem? (i := 219) (by decide +kernel)
theorem tF_RX2_66 : Cond.fieldLink RX2 66 "EelLocks$Guesses" "firstRest" "I" ∈ lw_tbl := List.mem_of_getElem? (i := 220) (by decide +kernel)
theorem tF_RX7_208 : Cond.fieldLink RX7 208 "EelLocks$Guesses" "firstRest" "I" ∈ lw_tbl := List.mem_of_getElem? (i := 221) (by decide +kernel)
theorem tF_RX7_10 : Cond.fieldLink RX7 10 "EelLocks" "text" "LEelLocks$Text;" ∈ lw_tbl := List.mem_of_getElem? (i := 235) (by decide +kernel)
theorem tF_RX7_19 : Cond.fieldLink RX7 19 "EelLocks" "way" "LEelLocks$Canal;" ∈ lw_tbl := List.mem_of_getElem? (i := 236) (by decide +kernel)
theorem tF_RX7_26 : Cond.fieldLink RX7 26 "EelLocks" "acts" "LEelLocks$Acts;" ∈ lw_tbl := List.mem_of_getElem? (i := 237) (by decide +kernel)
theorem tF_RX7_33 : Cond.fieldLink RX7 33 "EelLocks" "slots" "LEelLocks$Slots;" ∈ lw_tbl := List.mem_of_getElem? (i := 238) (by decide +kernel)
theorem tF_RX7_40 : Cond.fieldLink RX7 40 "EelLocks" "outlook" "LEelLocks$Outlook;" ∈ lw_tbl := List.mem_of_getElem? (i := 239) (by decide +kernel)
theorem tF_RX7_47 : Cond.fieldLink RX7 47 "EelLocks" "guesses" "LEelLocks$Guesses;" ∈ lw_tbl := List.mem_of_getElem? (i := 240) (by decide +kernel)
theorem tF_RX7_218 : Cond.fieldLink RX7 218 "EelLocks" "seedNow" "J" ∈ lw_tbl := List.mem_of_getElem? (i := 241) (by decide +kernel)
theorem tM_RL_13 : Cond.methodLink RL 13 yX7_write ∈ lw_tbl := List.mem_of_getElem? (i := 257) (by decide +kernel)
theorem tI_yX7_write : Cond.instanceMethod yX7_write ∈ lw_tbl := List.mem_of_getElem? (i := 258) (by decide +kernel)
theorem tS_yX7_write : Cond.selects RX7 yX7_write yX7_write ∈ lw_tbl := List.mem_of_getElem? (i := 259) (by decide +kernel)
theorem tC_yX7_write : Cond.code yX7_write cX7_write 2 (Option.some Jvm.ClassFile.FieldType.int) ∈ lw_tbl := List.mem_of_getElem? (i := 260) (by decide +kernel)
theorem tM_RX7_55 : Cond.methodLink RX7 55 yX6_append ∈ lw_tbl := List.mem_of_getElem? (i := 261) (by decide +kernel)
theorem tI_yX6_append : Cond.instanceMethod yX6_append ∈ lw_tbl := List.mem_of_getElem? (i := 262) (by decide +kernel)
theorem tS_yX6_append : Cond.selects RX6 yX6_append yX6_append ∈ lw_tbl := List.mem_of_getElem? (i := 263) (by decide +kernel)
theorem tC_yX6_append : Cond.code yX6_append cX6_append 2 (Option.none : Option Jvm.ClassFile.FieldType) ∈ lw_tbl := List.mem_of_getElem? (i := 264) (by decide +kernel)
theorem tM_RL_18 : Cond.methodLink RL 18 yX7_wipe ∈ lw_tbl := List.mem_of_getElem? (i := 265) (by decide +kernel)
theorem tI_yX7_wipe : Cond.instanceMethod yX7_wipe ∈ lw_tbl := List.mem_of_getElem? (i := 266) (by decide +kernel)
theorem tS_yX7_wipe : Cond.selects RX7 yX7_wipe yX7_wipe ∈ lw_tbl := List.mem_of_getElem? (i := 267) (by decide +kernel)
theorem tC_yX7_wipe : Cond.code yX7_wipe cX7_wipe 2 (Option.some Jvm.ClassFile.FieldType.int) ∈ lw_tbl := List.mem_of_getElem? (i := 268) (by decide +kernel)
theorem tM_RL_23 : Cond.methodLink RL 23 yX7_fault ∈ lw_tbl := List.mem_of_getElem? (i := 269) (by decide +kernel)
theorem tI_yX7_fault : Cond.instanceMethod yX7_fault ∈ lw_tbl := List.mem_of_getElem? (i := 270) (by decide +kernel)
theorem tS_yX7_fault : Cond.selects RX7 yX7_fault yX7_fault ∈ lw_tbl := List.mem_of_getElem? (i := 271) (by decide +kernel)
theorem tC_yX7_fault : Cond.code yX7_fault cX7_fault 1 (Option.some Jvm.ClassFile.FieldType.int) ∈ lw_tbl := List.mem_of_getElem? (i := 272) (by decide +kernel)
theorem tM_RX7_59 : Cond.methodLink RX7 59 yX6_faultPlace ∈ lw_tbl := List.mem_of_getElem? (i := 273) (by decide +kernel)
theorem tI_yX6_faultPlace : Cond.instanceMethod yX6_faultPlace ∈ lw_tbl := List.mem_of_getElem? (i := 274) (by decide +kernel)
theorem tS_yX6_faultPlace : Cond.selects RX6 yX6_faultPlace yX6_faultPlace ∈ lw_tbl := List.mem_of_getElem? (i := 275) (by decide +kernel)
theorem tC_yX6_faultPlace : Cond.code yX6_faultPlace cX6_faultPlace 6 (Option.some Jvm.ClassFile.FieldType.int) ∈ lw_tbl := List.mem_of_getElem? (i := 276) (by decide +kernel)
theorem tM_RX6_19 : Cond.methodLink RX6 19 yX6_dueBehind ∈ lw_tbl := List.mem_of_getElem? (i := 277) (by decide +kernel)
theorem tT_yX6_dueBehind : Cond.static yX6_dueBehind ∈ lw_tbl := List.mem_of_getElem? (i := 278) (by decide +kernel)
theorem tC_yX6_dueBehind : Cond.code yX6_dueBehind cX6_dueBehind 2 (Option.some Jvm.ClassFile.FieldType.int) ∈ lw_tbl := List.mem_of_getElem? (i := 279) (by decide +kernel)
theorem tM_RL_27 : Cond.methodLink RL 27 yX7_canal ∈ lw_tbl := List.mem_of_getElem? (i := 280) (by decide +kernel)
theorem tI_yX7_canal : Cond.instanceMethod yX7_canal ∈ lw_tbl := List.mem_of_getElem? (i := 281) (by decide +kernel)
theorem tS_yX7_canal : Cond.selects RX7 yX7_canal yX7_canal ∈ lw_tbl := List.mem_of_getElem? (i := 282) (by decide +kernel)
theorem tC_yX7_canal : Cond.code yX7_canal cX7_canal 1 (Option.some Jvm.ClassFile.FieldType.int) ∈ lw_tbl := List.mem_of_getElem? (i := 283) (by decide +kernel)
theorem tM_RX7_63 : Cond.methodLink RX7 63 yX1_makeFrom ∈ lw_tbl := List.mem_of_getElem? (i := 284) (by decide +kernel)
theorem tI_yX1_makeFrom : Cond.instanceMethod yX1_makeFrom ∈ lw_tbl := List.mem_of_getElem? (i := 285) (by decide +kernel)
theorem tS_yX1_makeFrom : Cond.selects RX1 yX1_makeFrom yX1_makeFrom ∈ lw_tbl := List.mem_of_getElem? (i := 286) (by decide +kernel)
theorem tC_yX1_makeFrom : Cond.code yX1_makeFrom cX1_makeFrom 4 (Option.none : Option Jvm.ClassFile.FieldType) ∈ lw_tbl := List.mem_of_getElem? (i := 287) (by decide +kernel)
theorem tM_RX1_35 : Cond.methodLink RX1 35 yX5_clearAll ∈ lw_tbl := List.mem_of_getElem? (i := 288) (by decide +kernel)
theorem tI_yX5_clearAll : Cond.instanceMethod yX5_clearAll ∈ lw_tbl := List.mem_of_getElem? (i := 289) (by decide +kernel)
theorem tS_yX5_clearAll : Cond.selects RX5 yX5_clearAll yX5_clearAll ∈ lw_tbl := List.mem_of_getElem? (i := 290) (by decide +kernel)
theorem tC_yX5_clearAll : Cond.code yX5_clearAll cX5_clearAll 2 (Option.none : Option Jvm.ClassFile.FieldType) ∈ lw_tbl := List.mem_of_getElem? (i := 291) (by decide +kernel)
theorem tM_RX5_40 : Cond.methodLink RX5 40 yX5_clearHours ∈ lw_tbl := List.mem_of_getElem? (i := 292) (by decide +kernel)
theorem tI_yX5_clearHours : Cond.instanceMethod yX5_clearHours ∈ lw_tbl := List.mem_of_getElem? (i := 293) (by decide +kernel)
theorem tS_yX5_clearHours : Cond.selects RX5 yX5_clearHours yX5_clearHours ∈ lw_tbl := List.mem_of_getElem? (i := 294) (by decide +kernel)
theorem tC_yX5_clearHours : Cond.code yX5_clearHours cX5_clearHours 2 (Option.none : Option Jvm.ClassFile.FieldType) ∈ lw_tbl := List.mem_of_getElem? (i := 295) (by decide +kernel)
theorem tM_RX1_49 : Cond.methodLink RX1 49 yX6_figureAt ∈ lw_tbl := List.mem_of_getElem? (i := 296) (by decide +kernel)
theorem tI_yX6_figureAt : Cond.instanceMethod yX6_figureAt ∈ lw_tbl := List.mem_of_getElem? (i := 297) (by decide +kernel)
theorem tS_yX6_figureAt : Cond.selects RX6 yX6_figureAt yX6_figureAt ∈ lw_tbl := List.mem_of_getElem? (i := 298) (by decide +kernel)
theorem tC_yX6_figureAt : Cond.code yX6_figureAt cX6_figureAt 2 (Option.some Jvm.ClassFile.FieldType.int) ∈ lw_tbl := List.mem_of_getElem? (i := 299) (by decide +kernel)
theorem tM_RX7_67 : Cond.methodLink RX7 67 yX0_forgetAll ∈ lw_tbl := List.mem_of_getElem? (i := 300) (by decide +kernel)
theorem tI_yX0_forgetAll : Cond.instanceMethod yX0_forgetAll ∈ lw_tbl := List.mem_of_getElem? (i := 301) (by decide +kernel)
theorem tS_yX0_forgetAll : Cond.selects RX0 yX0_forgetAll yX0_forgetAll ∈ lw_tbl := List.mem_of_getElem? (i := 302) (by decide +kernel)
theorem tC_yX0_forgetAll : Cond.code yX0_forgetAll cX0_forgetAll 1 (Option.none : Option Jvm.ClassFile.FieldType) ∈ lw_tbl := List.mem_of_getElem? (i := 303) (by decide +kernel)
theorem tM_RX7_70 : Cond.methodLink RX7 70 yX4_forgetAll ∈ lw_tbl := List.mem_of_getElem? (i := 304) (by decide +kernel)
theorem tI_yX4_forgetAll : Cond.instanceMethod yX4_forgetAll ∈ lw_tbl := List.mem_of_getElem? (i := 305) (by decide +kernel)
theorem tS_yX4_forgetAll : Cond.selects RX4 yX4_forgetAll yX4_forgetAll ∈ lw_tbl := List.mem_of_getElem? (i := 306) (by decide +kernel)
theorem tC_yX4_forgetAll : Cond.code yX4_forgetAll cX4_forgetAll 2 (Option.none : Option Jvm.ClassFile.FieldType) ∈ lw_tbl := List.mem_of_getElem? (i := 307) (by decide +kernel)
theorem tM_RL_31 : Cond.methodLink RL 31 yX7_barge ∈ lw_tbl := List.mem_of_getElem? (i := 308) (by decide +kernel)
theorem tI_yX7_barge : Cond.instanceMethod yX7_barge ∈ lw_tbl := List.mem_of_getElem? (i := 309) (by decide +kernel)
theorem tS_yX7_barge : Cond.selects RX7 yX7_barge yX7_barge ∈ lw_tbl := List.mem_of_getElem? (i := 310) (by decide +kernel)
theorem tC_yX7_barge : Cond.code yX7_barge cX7_barge 3 (Option.some Jvm.ClassFile.FieldType.int) ∈ lw_tbl := List.mem_of_getElem? (i := 311) (by decide +kernel)
theorem tM_RX7_77 : Cond.methodLink RX7 77 yX1_hasBarge ∈ lw_tbl := List.mem_of_getElem? (i := 312) (by decide +kernel)
theorem tI_yX1_hasBarge : Cond.instanceMethod yX1_hasBarge ∈ lw_tbl := List.mem_of_getElem? (i := 313) (by decide +kernel)
theorem tS_yX1_hasBarge : Cond.selects RX1 yX1_hasBarge yX1_hasBarge ∈ lw_tbl := List.mem_of_getElem? (i := 314) (by decide +kernel)
theorem tC_yX1_hasBarge : Cond.code yX1_hasBarge cX1_hasBarge 2 (Option.some Jvm.ClassFile.FieldType.boolean) ∈ lw_tbl := List.mem_of_getElem? (i := 315) (by decide +kernel)
theorem tM_RX7_97 : Cond.methodLink RX7 97 yX5_placeOf ∈ lw_tbl := List.mem_of_getElem? (i := 316) (by decide +kernel)
theorem tI_yX5_placeOf : Cond.instanceMethod yX5_placeOf ∈ lw_tbl := List.mem_of_getElem? (i := 317) (by decide +kernel)
theorem tS_yX5_placeOf : Cond.selects RX5 yX5_placeOf yX5_placeOf ∈ lw_tbl := List.mem_of_getElem? (i := 318) (by decide +kernel)
theorem tC_yX5_placeOf : Cond.code yX5_placeOf cX5_placeOf 3 (Option.some Jvm.ClassFile.FieldType.int) ∈ lw_tbl := List.mem_of_getElem? (i := 319) (by decide +kernel)
theorem tM_RL_36 : Cond.methodLink RL 36 yX7_lock ∈ lw_tbl := List.mem_of_getElem? (i := 320) (by decide +kernel)
theorem tI_yX7_lock : Cond.instanceMethod yX7_lock ∈ lw_tbl := List.mem_of_getElem? (i := 321) (by decide +kernel)
theorem tS_yX7_lock : Cond.selects RX7 yX7_lock yX7_lock ∈ lw_tbl := List.mem_of_getElem? (i := 322) (by decide +kernel)
theorem tC_yX7_lock : Cond.code yX7_lock cX7_lock 3 (Option.some Jvm.ClassFile.FieldType.int) ∈ lw_tbl := List.mem_of_getElem? (i := 323) (by decide +kernel)
theorem tM_RX7_104 : Cond.methodLink RX7 104 yX1_hasLock ∈ lw_tbl := List.mem_of_getElem? (i := 324) (by decide +kernel)
theorem tI_yX1_hasLock : Cond.instanceMethod yX1_hasLock ∈ lw_tbl := List.mem_of_getElem? (i := 325) (by decide +kernel)
theorem tS_yX1_hasLock : Cond.selects RX1 yX1_hasLock yX1_hasLock ∈ lw_tbl := List.mem_of_getElem? (i := 326) (by decide +kernel)
theorem tC_yX1_hasLock : Cond.code yX1_hasLock cX1_hasLock 2 (Option.some Jvm.ClassFile.FieldType.boolean) ∈ lw_tbl := List.mem_of_getElem? (i := 327) (by decide +kernel)
theorem tM_RX7_110 : Cond.methodLink RX7 110 yX1_isPassed ∈ lw_tbl := List.mem_of_getElem? (i := 328) (by decide +kernel)
theorem tI_yX1_isPassed : Cond.instanceMethod yX1_isPassed ∈ lw_tbl := List.mem_of_getElem? (i := 329) (by decide +kernel)
theorem tS_yX1_isPassed : Cond.selects RX1 yX1_isPassed yX1_isPassed ∈ lw_tbl := List.mem_of_getElem? (i := 330) (by decide +kernel)
theorem tC_yX1_isPassed : Cond.code yX1_isPassed cX1_isPassed 2 (Option.some Jvm.ClassFile.FieldType.boolean) ∈ lw_tbl := List.mem_of_getElem? (i := 331) (by decide +kernel)
theorem tM_RX7_113 : Cond.methodLink RX7 113 yX5_loadsAt ∈ lw_tbl := List.mem_of_getElem? (i := 332) (by decide +kernel)
theorem tI_yX5_loadsAt : Cond.instanceMethod yX5_loadsAt ∈ lw_tbl := List.mem_of_getElem? (i := 333) (by decide +kernel)
theorem tS_yX5_loadsAt : Cond.selects RX5 yX5_loadsAt yX5_loadsAt ∈ lw_tbl := List.mem_of_getElem? (i := 334) (by decide +kernel)
theorem tC_yX5_loadsAt : Cond.code yX5_loadsAt cX5_loadsAt 4 (Option.some Jvm.ClassFile.FieldType.int) ∈ lw_tbl := List.mem_of_getElem? (i := 335) (by decide +kernel)
theorem tM_RX5_49 : Cond.methodLink RX5 49 yX5_loadsOf ∈ lw_tbl := List.mem_of_getElem? (i := 336) (by decide +kernel)
theorem tI_yX5_loadsOf : Cond.instanceMethod yX5_loadsOf ∈ lw_tbl := List.mem_of_getElem? (i := 337) (by decide +kernel)
theorem tS_yX5_loadsOf : Cond.selects RX5 yX5_loadsOf yX5_loadsOf ∈ lw_tbl := List.mem_of_getElem? (i := 338) (by decide +kernel)
theorem tC_yX5_loadsOf : Cond.code yX5_loadsOf cX5_loadsOf 3 (Option.some Jvm.ClassFile.FieldType.int) ∈ lw_tbl := List.mem_of_getElem? (i := 339) (by decide +kernel)
theorem tM_RL_40 : Cond.methodLink RL 40 yX7_pass ∈ lw_tbl := List.mem_of_getElem? (i := 340) (by decide +kernel)
theorem tI_yX7_pass : Cond.instanceMethod yX7_pass ∈ lw_tbl := List.mem_of_getElem? (i := 341) (by decide +kernel)
theorem tS_yX7_pass : Cond.selects RX7 yX7_pass yX7_pass ∈ lw_tbl := List.mem_of_getElem? (i := 342) (by decide +kernel)
theorem tC_yX7_pass : Cond.code yX7_pass cX7_pass 1 (Option.some Jvm.ClassFile.FieldType.int) ∈ lw_tbl := List.mem_of_getElem? (i := 343) (by decide +kernel)
theorem tM_RX7_116 : Cond.methodLink RX7 116 yX1_locksLeft ∈ lw_tbl := List.mem_of_getElem? (i := 344) (by decide +kernel)
theorem tI_yX1_locksLeft : Cond.instanceMethod yX1_locksLeft ∈ lw_tbl := List.mem_of_getElem? (i := 345) (by decide +kernel)
theorem tS_yX1_locksLeft : Cond.selects RX1 yX1_locksLeft yX1_locksLeft ∈ lw_tbl := List.mem_of_getElem? (i := 346) (by decide +kernel)
theorem tC_yX1_locksLeft : Cond.code yX1_locksLeft cX1_locksLeft 1 (Option.some Jvm.ClassFile.FieldType.int) ∈ lw_tbl := List.mem_of_getElem? (i := 347) (by decide +kernel)
theorem tM_RX7_119 : Cond.methodLink RX7 119 yX0_remember ∈ lw_tbl := List.mem_of_getElem? (i := 348) (by decide +kernel)
theorem tI_yX0_remember : Cond.instanceMethod yX0_remember ∈ lw_tbl := List.mem_of_getElem? (i := 349) (by decide +kernel)
theorem tS_yX0_remember : Cond.selects RX0 yX0_remember yX0_remember ∈ lw_tbl := List.mem_of_getElem? (i := 350) (by decide +kernel)
theorem tC_yX0_remember : Cond.code yX0_remember cX0_remember 2 (Option.none : Option Jvm.ClassFile.FieldType) ∈ lw_tbl := List.mem_of_getElem? (i := 351) (by decide +kernel)
theorem tM_RX0_25 : Cond.methodLink RX0 25 yX5_copyFrom ∈ lw_tbl := List.mem_of_getElem? (i := 352) (by decide +kernel)
theorem tI_yX5_copyFrom : Cond.instanceMethod yX5_copyFrom ∈ lw_tbl := List.mem_of_getElem? (i := 353) (by decide +kernel)
theorem tS_yX5_copyFrom : Cond.selects RX5 yX5_copyFrom yX5_copyFrom ∈ lw_tbl := List.mem_of_getElem? (i := 354) (by decide +kernel)
theorem tC_yX5_copyFrom : Cond.code yX5_copyFrom cX5_copyFrom 2 (Option.none : Option Jvm.ClassFile.FieldType) ∈ lw_tbl := List.mem_of_getElem? (i := 355) (by decide +kernel)
theorem tM_RX5_27 : Cond.methodLink RX5 27 (⟨"java/lang/System", "arraycopy", "(Ljava/lang/Object;ILjava/lang/Object;II)V"⟩ : MethodName) ∈ lw_tbl := List.mem_of_getElem? (i := 356) (by decide +kernel)
theorem tT_System_arraycopy : Cond.static (⟨"java/lang/System", "arraycopy", "(Ljava/lang/Object;ILjava/lang/Object;II)V"⟩ : MethodName) ∈ lw_tbl := List.mem_of_getElem? (i := 357) (by decide +kernel)
theorem tV_System_arraycopy : Cond.native (⟨"java/lang/System", "arraycopy", "(Ljava/lang/Object;ILjava/lang/Object;II)V"⟩ : MethodName) ∈ lw_tbl := List.mem_of_getElem? (i := 358) (by decide +kernel)
theorem tM_RX7_123 : Cond.methodLink RX7 123 yX1_goThroughNext ∈ lw_tbl := List.mem_of_getElem? (i := 359) (by decide +kernel)
theorem tI_yX1_goThroughNext : Cond.instanceMethod yX1_goThroughNext ∈ lw_tbl := List.mem_of_getElem? (i := 360) (by decide +kernel)
theorem tS_yX1_goThroughNext : Cond.selects RX1 yX1_goThroughNext yX1_goThroughNext ∈ lw_tbl := List.mem_of_getElem? (i := 361) (by decide +kernel)
theorem tC_yX1_goThroughNext : Cond.code yX1_goThroughNext cX1_goThroughNext 8 (Option.none : Option Jvm.ClassFile.FieldType) ∈ lw_tbl := List.mem_of_getElem? (i := 362) (by decide +kernel)
theorem tM_RX1_80 : Cond.methodLink RX1 80 yX1_hasLock ∈ lw_tbl := List.mem_of_getElem? (i := 363) (by decide +kernel)
theorem tM_RX1_84 : Cond.methodLink RX1 84 yX1_holdsTwo ∈ lw_tbl := List.mem_of_getElem? (i := 364) (by decide +kernel)
theorem tI_yX1_holdsTwo : Cond.instanceMethod yX1_holdsTwo ∈ lw_tbl := List.mem_of_getElem? (i := 365) (by decide +kernel)
theorem tS_yX1_holdsTwo : Cond.selects RX1 yX1_holdsTwo yX1_holdsTwo ∈ lw_tbl := List.mem_of_getElem? (i := 366) (by decide +kernel)
theorem tC_yX1_holdsTwo : Cond.code yX1_holdsTwo cX1_holdsTwo 3 (Option.some Jvm.ClassFile.FieldType.boolean) ∈ lw_tbl := List.mem_of_getElem? (i := 367) (by decide +kernel)
theorem tM_RX1_91 : Cond.methodLink RX1 91 yJ9_max_7cf53 ∈ lw_tbl := List.mem_of_getElem? (i := 368) (by decide +kernel)
theorem tT_yJ9_max_7cf53 : Cond.static yJ9_max_7cf53 ∈ lw_tbl := List.mem_of_getElem? (i := 369) (by decide +kernel)
theorem tC_yJ9_max_7cf53 : Cond.code yJ9_max_7cf53 cJ9_max_7cf53 2 (Option.some Jvm.ClassFile.FieldType.int) ∈ lw_tbl := List.mem_of_getElem? (i := 370) (by decide +kernel)
theorem tM_RX1_97 : Cond.methodLink RX1 97 yX1_isSecondFirst ∈ lw_tbl := List.mem_of_getElem? (i := 371) (by decide +kernel)
theorem tI_yX1_isSecondFirst : Cond.instanceMethod yX1_isSecondFirst ∈ lw_tbl := List.mem_of_getElem? (i := 372) (by decide +kernel)
theorem tS_yX1_isSecondFirst : Cond.selects RX1 yX1_isSecondFirst yX1_isSecondFirst ∈ lw_tbl := List.mem_of_getElem? (i := 373) (by decide +kernel)
theorem tC_yX1_isSecondFirst : Cond.code yX1_isSecondFirst cX1_isSecondFirst 5 (Option.some Jvm.ClassFile.FieldType.boolean) ∈ lw_tbl := List.mem_of_getElem? (i := 374) (by decide +kernel)
theorem tM_RX1_105 : Cond.methodLink RX1 105 yX5_loadsOf ∈ lw_tbl := List.mem_of_getElem? (i := 375) (by decide +kernel)
theorem tM_RX1_101 : Cond.methodLink RX1 101 yX5_turn ∈ lw_tbl := List.mem_of_getElem? (i := 376) (by decide +kernel)
theorem tI_yX5_turn : Cond.instanceMethod yX5_turn ∈ lw_tbl := List.mem_of_getElem? (i := 377) (by decide +kernel)
theorem tS_yX5_turn : Cond.selects RX5 yX5_turn yX5_turn ∈ lw_tbl := List.mem_of_getElem? (i := 378) (by decide +kernel)
theorem tC_yX5_turn : Cond.code yX5_turn cX5_turn 3 (Option.none : Option Jvm.ClassFile.FieldType) ∈ lw_tbl := List.mem_of_getElem? (i := 379) (by decide +kernel)
theorem tM_RX7_126 : Cond.methodLink RX7 126 yX5_figures ∈ lw_tbl := List.mem_of_getElem? (i := 380) (by decide +kernel)
theorem tI_yX5_figures : Cond.instanceMethod yX5_figures ∈ lw_tbl := List.mem_of_getElem? (i := 381) (by decide +kernel)
theorem tS_yX5_figures : Cond.selects RX5 yX5_figures yX5_figures ∈ lw_tbl := List.mem_of_getElem? (i := 382) (by decide +kernel)
theorem tC_yX5_figures : Cond.code yX5_figures cX5_figures 3 (Option.some Jvm.ClassFile.FieldType.int) ∈ lw_tbl := List.mem_of_getElem? (i := 383) (by decide +kernel)
theorem tM_RL_44 : Cond.methodLink RL 44 yX7_give ∈ lw_tbl := List.mem_of_getElem? (i := 384) (by decide +kernel)
theorem tI_yX7_give : Cond.instanceMethod yX7_give ∈ lw_tbl := List.mem_of_getElem? (i := 385) (by decide +kernel)
theorem tS_yX7_give : Cond.selects RX7 yX7_give yX7_give ∈ lw_tbl := List.mem_of_getElem? (i := 386) (by decide +kernel)
theorem tC_yX7_give : Cond.code yX7_give cX7_give 3 (Option.some Jvm.ClassFile.FieldType.int) ∈ lw_tbl := List.mem_of_getElem? (i := 387) (by decide +kernel)
theorem tM_RX7_129 : Cond.methodLink RX7 129 yX5_addLoads ∈ lw_tbl := List.mem_of_getElem? (i := 388) (by decide +kernel)
theorem tI_yX5_addLoads : Cond.instanceMethod yX5_addLoads ∈ lw_tbl := List.mem_of_getElem? (i := 389) (by decide +kernel)
theorem tS_yX5_addLoads : Cond.selects RX5 yX5_addLoads yX5_addLoads ∈ lw_tbl := List.mem_of_getElem? (i := 390) (by decide +kernel)
theorem tC_yX5_addLoads : Cond.code yX5_addLoads cX5_addLoads 4 (Option.none : Option Jvm.ClassFile.FieldType) ∈ lw_tbl := List.mem_of_getElem? (i := 391) (by decide +kernel)
theorem tM_RX7_133 : Cond.methodLink RX7 133 yX5_loadsOf ∈ lw_tbl := List.mem_of_getElem? (i := 392) (by decide +kernel)
theorem tM_RL_48 : Cond.methodLink RL 48 yX7_letBy ∈ lw_tbl := List.mem_of_getElem? (i := 393) (by decide +kernel)
theorem tI_yX7_letBy : Cond.instanceMethod yX7_letBy ∈ lw_tbl := List.mem_of_getElem? (i := 394) (by decide +kernel)
theorem tS_yX7_letBy : Cond.selects RX7 yX7_letBy yX7_letBy ∈ lw_tbl := List.mem_of_getElem? (i := 395) (by decide +kernel)
theorem tC_yX7_letBy : Cond.code yX7_letBy cX7_letBy 3 (Option.some Jvm.ClassFile.FieldType.int) ∈ lw_tbl := List.mem_of_getElem? (i := 396) (by decide +kernel)
theorem tM_RX7_137 : Cond.methodLink RX7 137 yX5_turn ∈ lw_tbl := List.mem_of_getElem? (i := 397) (by decide +kernel)
theorem tM_RL_52 : Cond.methodLink RL 52 yX7_learn ∈ lw_tbl := List.mem_of_getElem? (i := 398) (by decide +kernel)
theorem tI_yX7_learn : Cond.instanceMethod yX7_learn ∈ lw_tbl := List.mem_of_getElem? (i := 399) (by decide +kernel)
theorem tS_yX7_learn : Cond.selects RX7 yX7_learn yX7_learn ∈ lw_tbl := List.mem_of_getElem? (i := 400) (by decide +kernel)
theorem tC_yX7_learn : Cond.code yX7_learn cX7_learn 4 (Option.some Jvm.ClassFile.FieldType.int) ∈ lw_tbl := List.mem_of_getElem? (i := 401) (by decide +kernel)
theorem tM_RL_56 : Cond.methodLink RL 56 yX7_undo ∈ lw_tbl := List.mem_of_getElem? (i := 402) (by decide +kernel)
theorem tI_yX7_undo : Cond.instanceMethod yX7_undo ∈ lw_tbl := List.mem_of_getElem? (i := 403) (by decide +kernel)
theorem tS_yX7_undo : Cond.selects RX7 yX7_undo yX7_undo ∈ lw_tbl := List.mem_of_getElem? (i := 404) (by decide +kernel)
theorem tC_yX7_undo : Cond.code yX7_undo cX7_undo 1 (Option.some Jvm.ClassFile.FieldType.int) ∈ lw_tbl := List.mem_of_getElem? (i := 405) (by decide +kernel)
theorem tM_RX7_143 : Cond.methodLink RX7 143 yX0_takeBack ∈ lw_tbl := List.mem_of_getElem? (i := 406) (by decide +kernel)
theorem tI_yX0_takeBack : Cond.instanceMethod yX0_takeBack ∈ lw_tbl := List.mem_of_getElem? (i := 407) (by decide +kernel)
theorem tS_yX0_takeBack : Cond.selects RX0 yX0_takeBack yX0_takeBack ∈ lw_tbl := List.mem_of_getElem? (i := 408) (by decide +kernel)
theorem tC_yX0_takeBack : Cond.code yX0_takeBack cX0_takeBack 2 (Option.none : Option Jvm.ClassFile.FieldType) ∈ lw_tbl := List.mem_of_getElem? (i := 409) (by decide +kernel)
theorem tM_RL_60 : Cond.methodLink RL 60 yX7_basin ∈ lw_tbl := List.mem_of_getElem? (i := 410) (by decide +kernel)
theorem tI_yX7_basin : Cond.instanceMethod yX7_basin ∈ lw_tbl := List.mem_of_getElem? (i := 411) (by decide +kernel)
theorem tS_yX7_basin : Cond.selects RX7 yX7_basin yX7_basin ∈ lw_tbl := List.mem_of_getElem? (i := 412) (by decide +kernel)
theorem tC_yX7_basin : Cond.code yX7_basin cX7_basin 1 (Option.some Jvm.ClassFile.FieldType.int) ∈ lw_tbl := List.mem_of_getElem? (i := 413) (by decide +kernel)
theorem tM_RX7_146 : Cond.methodLink RX7 146 yX1_atBasin ∈ lw_tbl := List.mem_of_getElem? (i := 414) (by decide +kernel)
theorem tI_yX1_atBasin : Cond.instanceMethod yX1_atBasin ∈ lw_tbl := List.mem_of_getElem? (i := 415) (by decide +kernel)
theorem tS_yX1_atBasin : Cond.selects RX1 yX1_atBasin yX1_atBasin ∈ lw_tbl := List.mem_of_getElem? (i := 416) (by decide +kernel)
theorem tC_yX1_atBasin : Cond.code yX1_atBasin cX1_atBasin 2 (Option.some (Jvm.ClassFile.FieldType.object "EelLocks$State")) ∈ lw_tbl := List.mem_of_getElem? (i := 417) (by decide +kernel)
theorem tM_RX1_69 : Cond.methodLink RX1 69 yX1_newTrial ∈ lw_tbl := List.mem_of_getElem? (i := 418) (by decide +kernel)
theorem tI_yX1_newTrial : Cond.instanceMethod yX1_newTrial ∈ lw_tbl := List.mem_of_getElem? (i := 419) (by decide +kernel)
theorem tS_yX1_newTrial : Cond.selects RX1 yX1_newTrial yX1_newTrial ∈ lw_tbl := List.mem_of_getElem? (i := 420) (by decide +kernel)
theorem tC_yX1_newTrial : Cond.code yX1_newTrial cX1_newTrial 1 (Option.some (Jvm.ClassFile.FieldType.object "EelLocks$State")) ∈ lw_tbl := List.mem_of_getElem? (i := 421) (by decide +kernel)
theorem tM_RX1_65 : Cond.methodLink RX1 65 yX5_copyFrom ∈ lw_tbl := List.mem_of_getElem? (i := 422) (by decide +kernel)
theorem tM_RX1_73 : Cond.methodLink RX1 73 yX1_goOnTo ∈ lw_tbl := List.mem_of_getElem? (i := 423) (by decide +kernel)
theorem tI_yX1_goOnTo : Cond.instanceMethod yX1_goOnTo ∈ lw_tbl := List.mem_of_getElem? (i := 424) (by decide +kernel)
theorem tS_yX1_goOnTo : Cond.selects RX1 yX1_goOnTo yX1_goOnTo ∈ lw_tbl := List.mem_of_getElem? (i := 425) (by decide +kernel)
theorem tC_yX1_goOnTo : Cond.code yX1_goOnTo cX1_goOnTo 4 (Option.none : Option Jvm.ClassFile.FieldType) ∈ lw_tbl := List.mem_of_getElem? (i := 426) (by decide +kernel)
theorem tM_RX1_77 : Cond.methodLink RX1 77 yX1_goThroughNext ∈ lw_tbl := List.mem_of_getElem? (i := 427) (by decide +kernel)
theorem tM_RL_64 : Cond.methodLink RL 64 yX7_hour ∈ lw_tbl := List.mem_of_getElem? (i := 428) (by decide +kernel)
theorem tI_yX7_hour : Cond.instanceMethod yX7_hour ∈ lw_tbl := List.mem_of_getElem? (i := 429) (by decide +kernel)
theorem tS_yX7_hour : Cond.selects RX7 yX7_hour yX7_hour ∈ lw_tbl := List.mem_of_getElem? (i := 430) (by decide +kernel)
theorem tC_yX7_hour : Cond.code yX7_hour cX7_hour 2 (Option.some Jvm.ClassFile.FieldType.int) ∈ lw_tbl := List.mem_of_getElem? (i := 431) (by decide +kernel)
theorem tM_RL_68 : Cond.methodLink RL 68 yX7_gains ∈ lw_tbl := List.mem_of_getElem? (i := 432) (by decide +kernel)
theorem tI_yX7_gains : Cond.instanceMethod yX7_gains ∈ lw_tbl := List.mem_of_getElem? (i := 433) (by decide +kernel)
theorem tS_yX7_gains : Cond.selects RX7 yX7_gains yX7_gains ∈ lw_tbl := List.mem_of_getElem? (i := 434) (by decide +kernel)
theorem tC_yX7_gains : Cond.code yX7_gains cX7_gains 2 (Option.some Jvm.ClassFile.FieldType.int) ∈ lw_tbl := List.mem_of_getElem? (i := 435) (by decide +kernel)
theorem tM_RX7_150 : Cond.methodLink RX7 150 yX3_gainsOf ∈ lw_tbl := List.mem_of_getElem? (i := 436) (by decide +kernel)
theorem tI_yX3_gainsOf : Cond.instanceMethod yX3_gainsOf ∈ lw_tbl := List.mem_of_getElem? (i := 437) (by decide +kernel)
theorem tS_yX3_gainsOf : Cond.selects RX3 yX3_gainsOf yX3_gainsOf ∈ lw_tbl := List.mem_of_getElem? (i := 438) (by decide +kernel)
theorem tC_yX3_gainsOf : Cond.code yX3_gainsOf cX3_gainsOf 7 (Option.some Jvm.ClassFile.FieldType.int) ∈ lw_tbl := List.mem_of_getElem? (i := 439) (by decide +kernel)
theorem tM_RX3_18 : Cond.methodLink RX3 18 yX1_newTrial ∈ lw_tbl := List.mem_of_getElem? (i := 440) (by decide +kernel)
theorem tM_RX3_33 : Cond.methodLink RX3 33 yX5_placeOf ∈ lw_tbl := List.mem_of_getElem? (i := 441) (by decide +kernel)
theorem tM_RX3_37 : Cond.methodLink RX3 37 yX1_goThroughNext ∈ lw_tbl := List.mem_of_getElem? (i := 442) (by decide +kernel)
theorem tM_RL_72 : Cond.methodLink RL 72 yX7_mates ∈ lw_tbl := List.mem_of_getElem? (i := 443) (by decide +kernel)
theorem tI_yX7_mates : Cond.instanceMethod yX7_mates ∈ lw_tbl := List.mem_of_getElem? (i := 444) (by decide +kernel)
theorem tS_yX7_mates : Cond.selects RX7 yX7_mates yX7_mates ∈ lw_tbl := List.mem_of_getElem? (i := 445) (by decide +kernel)
theorem tC_yX7_mates : Cond.code yX7_mates cX7_mates 2 (Option.some Jvm.ClassFile.FieldType.int) ∈ lw_tbl := List.mem_of_getElem? (i := 446) (by decide +kernel)
theorem tM_RX7_154 : Cond.methodLink RX7 154 yX3_matesOf ∈ lw_tbl := List.mem_of_getElem? (i := 447) (by decide +kernel)
theorem tI_yX3_matesOf : Cond.instanceMethod yX3_matesOf ∈ lw_tbl := List.mem_of_getElem? (i := 448) (by decide +kernel)
theorem tS_yX3_matesOf : Cond.selects RX3 yX3_matesOf yX3_matesOf ∈ lw_tbl := List.mem_of_getElem? (i := 449) (by decide +kernel)
theorem tC_yX3_matesOf : Cond.code yX3_matesOf cX3_matesOf 7 (Option.some Jvm.ClassFile.FieldType.int) ∈ lw_tbl := List.mem_of_getElem? (i := 450) (by decide +kernel)
theorem tM_RX3_41 : Cond.methodLink RX3 41 yX1_mateAtNext ∈ lw_tbl := List.mem_of_getElem? (i := 451) (by decide +kernel)
theorem tI_yX1_mateAtNext : Cond.instanceMethod yX1_mateAtNext ∈ lw_tbl := List.mem_of_getElem? (i := 452) (by decide +kernel)
theorem tS_yX1_mateAtNext : Cond.selects RX1 yX1_mateAtNext yX1_mateAtNext ∈ lw_tbl := List.mem_of_getElem? (i := 453) (by decide +kernel)
theorem tC_yX1_mateAtNext : Cond.code yX1_mateAtNext cX1_mateAtNext 4 (Option.some Jvm.ClassFile.FieldType.int) ∈ lw_tbl := List.mem_of_getElem? (i := 454) (by decide +kernel)
theorem tM_RL_76 : Cond.methodLink RL 76 yX7_first ∈ lw_tbl := List.mem_of_getElem? (i := 455) (by decide +kernel)
theorem tI_yX7_first : Cond.instanceMethod yX7_first ∈ lw_tbl := List.mem_of_getElem? (i := 456) (by decide +kernel)
theorem tS_yX7_first : Cond.selects RX7 yX7_first yX7_first ∈ lw_tbl := List.mem_of_getElem? (i := 457) (by decide +kernel)
theorem tC_yX7_first : Cond.code yX7_first cX7_first 4 (Option.some Jvm.ClassFile.FieldType.int) ∈ lw_tbl := List.mem_of_getElem? (i := 458) (by decide +kernel)
theorem tM_RX7_157 : Cond.methodLink RX7 157 yX7_refusalOfTwo ∈ lw_tbl := List.mem_of_getElem? (i := 459) (by decide +kernel)
theorem tI_yX7_refusalOfTwo : Cond.instanceMethod yX7_refusalOfTwo ∈ lw_tbl := List.mem_of_getElem? (i := 461) (by decide +kernel)
theorem tC_yX7_refusalOfTwo : Cond.code yX7_refusalOfTwo cX7_refusalOfTwo 3 (Option.some Jvm.ClassFile.FieldType.int) ∈ lw_tbl := List.mem_of_getElem? (i := 462) (by decide +kernel)
theorem tM_RX7_160 : Cond.methodLink RX7 160 yX3_firstOrder ∈ lw_tbl := List.mem_of_getElem? (i := 463) (by decide +kernel)
theorem tI_yX3_firstOrder : Cond.instanceMethod yX3_firstOrder ∈ lw_tbl := List.mem_of_getElem? (i := 464) (by decide +kernel)
theorem tS_yX3_firstOrder : Cond.selects RX3 yX3_firstOrder yX3_firstOrder ∈ lw_tbl := List.mem_of_getElem? (i := 465) (by decide +kernel)
theorem tC_yX3_firstOrder : Cond.code yX3_firstOrder cX3_firstOrder 7 (Option.some Jvm.ClassFile.FieldType.int) ∈ lw_tbl := List.mem_of_getElem? (i := 466) (by decide +kernel)
theorem tQ_RX3_48 : Cond.fieldLinkNest RX3 48 "EelLocks" "FACTORIALS" "[I" "EelLocks" ∈ lw_tbl := List.mem_of_getElem? (i := 467) (by decide +kernel)
theorem tLS : Cond.laysStatic "EelLocks" "FACTORIALS" "[I" ∈ lw_tbl := List.mem_of_getElem? (i := 468) (by decide +kernel)
theorem tM_RX3_54 : Cond.methodLink RX3 54 (⟨"java/lang/System", "arraycopy", "(Ljava/lang/Object;ILjava/lang/Object;II)V"⟩ : MethodName) ∈ lw_tbl := List.mem_of_getElem? (i := 469) (by decide +kernel)
theorem tM_RX3_60 : Cond.methodLink RX3 60 yX5_figures ∈ lw_tbl := List.mem_of_getElem? (i := 470) (by decide +kernel)
theorem tM_RX3_63 : Cond.methodLink RX3 63 yX3_suits ∈ lw_tbl := List.mem_of_getElem? (i := 471) (by decide +kernel)
theorem tI_yX3_suits : Cond.instanceMethod yX3_suits ∈ lw_tbl := List.mem_of_getElem? (i := 473) (by decide +kernel)
theorem tC_yX3_suits : Cond.code yX3_suits cX3_suits 5 (Option.some Jvm.ClassFile.FieldType.boolean) ∈ lw_tbl := List.mem_of_getElem? (i := 474) (by decide +kernel)
theorem tM_RX3_75 : Cond.methodLink RX3 75 yX1_goOnTo ∈ lw_tbl := List.mem_of_getElem? (i := 475) (by decide +kernel)
theorem tM_RX3_79 : Cond.methodLink RX3 79 yX5_isAt ∈ lw_tbl := List.mem_of_getElem? (i := 476) (by decide +kernel)
theorem tI_yX5_isAt : Cond.instanceMethod yX5_isAt ∈ lw_tbl := List.mem_of_getElem? (i := 477) (by decide +kernel)
theorem tS_yX5_isAt : Cond.selects RX5 yX5_isAt yX5_isAt ∈ lw_tbl := List.mem_of_getElem? (i := 478) (by decide +kernel)
theorem tC_yX5_isAt : Cond.code yX5_isAt cX5_isAt 3 (Option.some Jvm.ClassFile.FieldType.boolean) ∈ lw_tbl := List.mem_of_getElem? (i := 479) (by decide +kernel)
theorem tM_RX3_67 : Cond.methodLink RX3 67 yX3_makeNextOrder ∈ lw_tbl := List.mem_of_getElem? (i := 480) (by decide +kernel)
theorem tI_yX3_makeNextOrder : Cond.instanceMethod yX3_makeNextOrder ∈ lw_tbl := List.mem_of_getElem? (i := 482) (by decide +kernel)
theorem tC_yX3_makeNextOrder : Cond.code yX3_makeNextOrder cX3_makeNextOrder 6 (Option.none : Option Jvm.ClassFile.FieldType) ∈ lw_tbl := List.mem_of_getElem? (i := 483) (by decide +kernel)
theorem tM_RX3_71 : Cond.methodLink RX3 71 yX3_exchange ∈ lw_tbl := List.mem_of_getElem? (i := 484) (by decide +kernel)
theorem tI_yX3_exchange : Cond.instanceMethod yX3_exchange ∈ lw_tbl := List.mem_of_getElem? (i := 486) (by decide +kernel)
theorem tC_yX3_exchange : Cond.code yX3_exchange cX3_exchange 4 (Option.none : Option Jvm.ClassFile.FieldType) ∈ lw_tbl := List.mem_of_getElem? (i := 487) (by decide +kernel)
theorem tM_RL_80 : Cond.methodLink RL 80 yX7_tea ∈ lw_tbl := List.mem_of_getElem? (i := 488) (by decide +kernel)
theorem tI_yX7_tea : Cond.instanceMethod yX7_tea ∈ lw_tbl := List.mem_of_getElem? (i := 489) (by decide +kernel)
theorem tS_yX7_tea : Cond.selects RX7 yX7_tea yX7_tea ∈ lw_tbl := List.mem_of_getElem? (i := 490) (by decide +kernel)
theorem tC_yX7_tea : Cond.code yX7_tea cX7_tea 6 (Option.some Jvm.ClassFile.FieldType.int) ∈ lw_tbl := List.mem_of_getElem? (i := 491) (by decide +kernel)
theorem tM_RX7_164 : Cond.methodLink RX7 164 yX3_leastLoads ∈ lw_tbl := List.mem_of_getElem? (i := 492) (by decide +kernel)
theorem tI_yX3_leastLoads : Cond.instanceMethod yX3_leastLoads ∈ lw_tbl := List.mem_of_getElem? (i := 493) (by decide +kernel)
theorem tS_yX3_leastLoads : Cond.selects RX3 yX3_leastLoads yX3_leastLoads ∈ lw_tbl := List.mem_of_getElem? (i := 494) (by decide +kernel)
theorem tC_yX3_leastLoads : Cond.code yX3_leastLoads cX3_leastLoads 6 (Option.some Jvm.ClassFile.FieldType.int) ∈ lw_tbl := List.mem_of_getElem? (i := 495) (by decide +kernel)
theorem tM_RX3_83 : Cond.methodLink RX3 83 yX3_suitsWith ∈ lw_tbl := List.mem_of_getElem? (i := 496) (by decide +kernel)
theorem tI_yX3_suitsWith : Cond.instanceMethod yX3_suitsWith ∈ lw_tbl := List.mem_of_getElem? (i := 498) (by decide +kernel)
theorem tC_yX3_suitsWith : Cond.code yX3_suitsWith cX3_suitsWith 7 (Option.some Jvm.ClassFile.FieldType.boolean) ∈ lw_tbl := List.mem_of_getElem? (i := 499) (by decide +kernel)
theorem tM_RX3_112 : Cond.methodLink RX3 112 yX5_addLoads ∈ lw_tbl := List.mem_of_getElem? (i := 500) (by decide +kernel)
theorem tM_RX3_87 : Cond.methodLink RX3 87 yX3_canGive ∈ lw_tbl := List.mem_of_getElem? (i := 501) (by decide +kernel)
theorem tI_yX3_canGive : Cond.instanceMethod yX3_canGive ∈ lw_tbl := List.mem_of_getElem? (i := 503) (by decide +kernel)
theorem tC_yX3_canGive : Cond.code yX3_canGive cX3_canGive 5 (Option.some Jvm.ClassFile.FieldType.boolean) ∈ lw_tbl := List.mem_of_getElem? (i := 504) (by decide +kernel)
theorem tM_RX3_95 : Cond.methodLink RX3 95 yX1_hasBarge ∈ lw_tbl := List.mem_of_getElem? (i := 505) (by decide +kernel)
theorem tM_RX3_99 : Cond.methodLink RX3 99 yX1_hasLock ∈ lw_tbl := List.mem_of_getElem? (i := 506) (by decide +kernel)
theorem tM_RX3_102 : Cond.methodLink RX3 102 yX1_isPassed ∈ lw_tbl := List.mem_of_getElem? (i := 507) (by decide +kernel)
theorem tM_RX3_91 : Cond.methodLink RX3 91 yX3_canGiveBoth ∈ lw_tbl := List.mem_of_getElem? (i := 508) (by decide +kernel)
theorem tI_yX3_canGiveBoth : Cond.instanceMethod yX3_canGiveBoth ∈ lw_tbl := List.mem_of_getElem? (i := 510) (by decide +kernel)
theorem tC_yX3_canGiveBoth : Cond.code yX3_canGiveBoth cX3_canGiveBoth 4 (Option.some Jvm.ClassFile.FieldType.boolean) ∈ lw_tbl := List.mem_of_getElem? (i := 511) (by decide +kernel)
theorem tM_RX7_167 : Cond.methodLink RX7 167 yX3_howManyLoads ∈ lw_tbl := List.mem_of_getElem? (i := 512) (by decide +kernel)
theorem tI_yX3_howManyLoads : Cond.instanceMethod yX3_howManyLoads ∈ lw_tbl := List.mem_of_getElem? (i := 513) (by decide +kernel)
theorem tS_yX3_howManyLoads : Cond.selects RX3 yX3_howManyLoads yX3_howManyLoads ∈ lw_tbl := List.mem_of_getElem? (i := 514) (by decide +kernel)
theorem tC_yX3_howManyLoads : Cond.code yX3_howManyLoads cX3_howManyLoads 2 (Option.some Jvm.ClassFile.FieldType.int) ∈ lw_tbl := List.mem_of_getElem? (i := 515) (by decide +kernel)
theorem tM_RL_85 : Cond.methodLink RL 85 yX7_judge ∈ lw_tbl := List.mem_of_getElem? (i := 516) (by decide +kernel)
theorem tI_yX7_judge : Cond.instanceMethod yX7_judge ∈ lw_tbl := List.mem_of_getElem? (i := 517) (by decide +kernel)
theorem tS_yX7_judge : Cond.selects RX7 yX7_judge yX7_judge ∈ lw_tbl := List.mem_of_getElem? (i := 518) (by decide +kernel)
theorem tC_yX7_judge : Cond.code yX7_judge cX7_judge 3 (Option.some Jvm.ClassFile.FieldType.int) ∈ lw_tbl := List.mem_of_getElem? (i := 519) (by decide +kernel)
theorem tM_RX7_170 : Cond.methodLink RX7 170 yX3_spread ∈ lw_tbl := List.mem_of_getElem? (i := 520) (by decide +kernel)
theorem tI_yX3_spread : Cond.instanceMethod yX3_spread ∈ lw_tbl := List.mem_of_getElem? (i := 521) (by decide +kernel)
theorem tS_yX3_spread : Cond.selects RX3 yX3_spread yX3_spread ∈ lw_tbl := List.mem_of_getElem? (i := 522) (by decide +kernel)
theorem tC_yX3_spread : Cond.code yX3_spread cX3_spread 5 (Option.some Jvm.ClassFile.FieldType.boolean) ∈ lw_tbl := List.mem_of_getElem? (i := 523) (by decide +kernel)
theorem tM_RX7_174 : Cond.methodLink RX7 174 yX3_firstMisplaced ∈ lw_tbl := List.mem_of_getElem? (i := 524) (by decide +kernel)
theorem tI_yX3_firstMisplaced : Cond.instanceMethod yX3_firstMisplaced ∈ lw_tbl := List.mem_of_getElem? (i := 525) (by decide +kernel)
theorem tS_yX3_firstMisplaced : Cond.selects RX3 yX3_firstMisplaced yX3_firstMisplaced ∈ lw_tbl := List.mem_of_getElem? (i := 526) (by decide +kernel)
theorem tC_yX3_firstMisplaced : Cond.code yX3_firstMisplaced cX3_firstMisplaced 5 (Option.some Jvm.ClassFile.FieldType.int) ∈ lw_tbl := List.mem_of_getElem? (i := 527) (by decide +kernel)
theorem tM_RX3_119 : Cond.methodLink RX3 119 yX1_atBasin ∈ lw_tbl := List.mem_of_getElem? (i := 528) (by decide +kernel)
theorem tM_RL_89 : Cond.methodLink RL 89 yX7_share ∈ lw_tbl := List.mem_of_getElem? (i := 529) (by decide +kernel)
theorem tI_yX7_share : Cond.instanceMethod yX7_share ∈ lw_tbl := List.mem_of_getElem? (i := 530) (by decide +kernel)
theorem tS_yX7_share : Cond.selects RX7 yX7_share yX7_share ∈ lw_tbl := List.mem_of_getElem? (i := 531) (by decide +kernel)
theorem tC_yX7_share : Cond.code yX7_share cX7_share 3 (Option.some Jvm.ClassFile.FieldType.int) ∈ lw_tbl := List.mem_of_getElem? (i := 532) (by decide +kernel)
theorem tM_RX7_177 : Cond.methodLink RX7 177 yX3_shareAbove ∈ lw_tbl := List.mem_of_getElem? (i := 533) (by decide +kernel)
theorem tI_yX3_shareAbove : Cond.instanceMethod yX3_shareAbove ∈ lw_tbl := List.mem_of_getElem? (i := 534) (by decide +kernel)
theorem tS_yX3_shareAbove : Cond.selects RX3 yX3_shareAbove yX3_shareAbove ∈ lw_tbl := List.mem_of_getElem? (i := 535) (by decide +kernel)
theorem tC_yX3_shareAbove : Cond.code yX3_shareAbove cX3_shareAbove 8 (Option.some Jvm.ClassFile.FieldType.int) ∈ lw_tbl := List.mem_of_getElem? (i := 536) (by decide +kernel)
theorem tM_RX3_122 : Cond.methodLink RX3 122 yJ6_bitCount_0f7a4 ∈ lw_tbl := List.mem_of_getElem? (i := 537) (by decide +kernel)
theorem tT_yJ6_bitCount_0f7a4 : Cond.static yJ6_bitCount_0f7a4 ∈ lw_tbl := List.mem_of_getElem? (i := 538) (by decide +kernel)
theorem tC_yJ6_bitCount_0f7a4 : Cond.code yJ6_bitCount_0f7a4 cJ6_bitCount_0f7a4 1 (Option.some Jvm.ClassFile.FieldType.int) ∈ lw_tbl := List.mem_of_getElem? (i := 539) (by decide +kernel)
theorem tK_RJ6_265 : Cond.constant RJ6 265 (1431655765) ∈ lw_tbl := List.mem_of_getElem? (i := 540) (by decide +kernel)
theorem tK_RJ6_266 : Cond.constant RJ6 266 (858993459) ∈ lw_tbl := List.mem_of_getElem? (i := 541) (by decide +kernel)
theorem tK_RJ6_267 : Cond.constant RJ6 267 (252645135) ∈ lw_tbl := List.mem_of_getElem? (i := 542) (by decide +kernel)
theorem tM_RX3_127 : Cond.methodLink RX3 127 yX3_lastHourOf ∈ lw_tbl := List.mem_of_getElem? (i := 543) (by decide +kernel)
theorem tI_yX3_lastHourOf : Cond.instanceMethod yX3_lastHourOf ∈ lw_tbl := List.mem_of_getElem? (i := 545) (by decide +kernel)
theorem tC_yX3_lastHourOf : Cond.code yX3_lastHourOf cX3_lastHourOf 6 (Option.some Jvm.ClassFile.FieldType.int) ∈ lw_tbl := List.mem_of_getElem? (i := 546) (by decide +kernel)
theorem tM_RX3_131 : Cond.methodLink RX3 131 yX5_clearHours ∈ lw_tbl := List.mem_of_getElem? (i := 547) (by decide +kernel)
theorem tM_RX3_137 : Cond.methodLink RX3 137 yX5_greatestHour ∈ lw_tbl := List.mem_of_getElem? (i := 548) (by decide +kernel)
theorem tI_yX5_greatestHour : Cond.instanceMethod yX5_greatestHour ∈ lw_tbl := List.mem_of_getElem? (i := 549) (by decide +kernel)
theorem tS_yX5_greatestHour : Cond.selects RX5 yX5_greatestHour yX5_greatestHour ∈ lw_tbl := List.mem_of_getElem? (i := 550) (by decide +kernel)
theorem tC_yX5_greatestHour : Cond.code yX5_greatestHour cX5_greatestHour 3 (Option.some Jvm.ClassFile.FieldType.int) ∈ lw_tbl := List.mem_of_getElem? (i := 551) (by decide +kernel)
theorem tM_RX5_43 : Cond.methodLink RX5 43 yJ9_max_7cf53 ∈ lw_tbl := List.mem_of_getElem? (i := 552) (by decide +kernel)
theorem tF_RX7_180 : Cond.fieldLink RX7 180 "EelLocks" "FACTORIALS" "[I" ∈ lw_tbl := List.mem_of_getElem? (i := 553) (by decide +kernel)
theorem tM_RX7_183 : Cond.methodLink RX7 183 yX7_tellFraction ∈ lw_tbl := List.mem_of_getElem? (i := 554) (by decide +kernel)
theorem tT_yX7_tellFraction : Cond.static yX7_tellFraction ∈ lw_tbl := List.mem_of_getElem? (i := 555) (by decide +kernel)
theorem tC_yX7_tellFraction : Cond.code yX7_tellFraction cX7_tellFraction 5 (Option.some Jvm.ClassFile.FieldType.int) ∈ lw_tbl := List.mem_of_getElem? (i := 556) (by decide +kernel)
theorem tM_RX7_260 : Cond.methodLink RX7 260 yJ9_abs_0f7a4 ∈ lw_tbl := List.mem_of_getElem? (i := 557) (by decide +kernel)
theorem tT_yJ9_abs_0f7a4 : Cond.static yJ9_abs_0f7a4 ∈ lw_tbl := List.mem_of_getElem? (i := 558) (by decide +kernel)
theorem tC_yJ9_abs_0f7a4 : Cond.code yJ9_abs_0f7a4 cJ9_abs_0f7a4 1 (Option.some Jvm.ClassFile.FieldType.int) ∈ lw_tbl := List.mem_of_getElem? (i := 559) (by decide +kernel)
theorem tM_RX7_265 : Cond.methodLink RX7 265 yX7_greatestDivisor ∈ lw_tbl := List.mem_of_getElem? (i := 560) (by decide +kernel)
theorem tT_yX7_greatestDivisor : Cond.static yX7_greatestDivisor ∈ lw_tbl := List.mem_of_getElem? (i := 561) (by decide +kernel)
theorem tC_yX7_greatestDivisor : Cond.code yX7_greatestDivisor cX7_greatestDivisor 6 (Option.some Jvm.ClassFile.FieldType.int) ∈ lw_tbl := List.mem_of_getElem? (i := 562) (by decide +kernel)
theorem tM_RL_94 : Cond.methodLink RL 94 yX7_gave ∈ lw_tbl := List.mem_of_getElem? (i := 563) (by decide +kernel)
theorem tI_yX7_gave : Cond.instanceMethod yX7_gave ∈ lw_tbl := List.mem_of_getElem? (i := 564) (by decide +kernel)
theorem tS_yX7_gave : Cond.selects RX7 yX7_gave yX7_gave ∈ lw_tbl := List.mem_of_getElem? (i := 565) (by decide +kernel)
theorem tC_yX7_gave : Cond.code yX7_gave cX7_gave 4 (Option.some Jvm.ClassFile.FieldType.int) ∈ lw_tbl := List.mem_of_getElem? (i := 566) (by decide +kernel)
theorem tM_RX7_187 : Cond.methodLink RX7 187 yX3_areAllBarges ∈ lw_tbl := List.mem_of_getElem? (i := 567) (by decide +kernel)
theorem tI_yX3_areAllBarges : Cond.instanceMethod yX3_areAllBarges ∈ lw_tbl := List.mem_of_getElem? (i := 568) (by decide +kernel)
theorem tS_yX3_areAllBarges : Cond.selects RX3 yX3_areAllBarges yX3_areAllBarges ∈ lw_tbl := List.mem_of_getElem? (i := 569) (by decide +kernel)
theorem tC_yX3_areAllBarges : Cond.code yX3_areAllBarges cX3_areAllBarges 5 (Option.some Jvm.ClassFile.FieldType.boolean) ∈ lw_tbl := List.mem_of_getElem? (i := 570) (by decide +kernel)
theorem tM_RX3_116 : Cond.methodLink RX3 116 yX3_spread ∈ lw_tbl := List.mem_of_getElem? (i := 571) (by decide +kernel)
theorem tM_RX7_191 : Cond.methodLink RX7 191 yX2_findGivers ∈ lw_tbl := List.mem_of_getElem? (i := 572) (by decide +kernel)
theorem tI_yX2_findGivers : Cond.instanceMethod yX2_findGivers ∈ lw_tbl := List.mem_of_getElem? (i := 573) (by decide +kernel)
theorem tS_yX2_findGivers : Cond.selects RX2 yX2_findGivers yX2_findGivers ∈ lw_tbl := List.mem_of_getElem? (i := 574) (by decide +kernel)
theorem tC_yX2_findGivers : Cond.code yX2_findGivers cX2_findGivers 7 (Option.none : Option Jvm.ClassFile.FieldType) ∈ lw_tbl := List.mem_of_getElem? (i := 575) (by decide +kernel)
theorem tM_RX2_30 : Cond.methodLink RX2 30 yX2_comesOutSo ∈ lw_tbl := List.mem_of_getElem? (i := 576) (by decide +kernel)
theorem tI_yX2_comesOutSo : Cond.instanceMethod yX2_comesOutSo ∈ lw_tbl := List.mem_of_getElem? (i := 578) (by decide +kernel)
theorem tC_yX2_comesOutSo : Cond.code yX2_comesOutSo cX2_comesOutSo 6 (Option.some Jvm.ClassFile.FieldType.boolean) ∈ lw_tbl := List.mem_of_getElem? (i := 579) (by decide +kernel)
theorem tM_RX2_37 : Cond.methodLink RX2 37 yX1_newTrial ∈ lw_tbl := List.mem_of_getElem? (i := 580) (by decide +kernel)
theorem tM_RX2_46 : Cond.methodLink RX2 46 yX2_addGivers ∈ lw_tbl := List.mem_of_getElem? (i := 581) (by decide +kernel)
theorem tI_yX2_addGivers : Cond.instanceMethod yX2_addGivers ∈ lw_tbl := List.mem_of_getElem? (i := 583) (by decide +kernel)
theorem tC_yX2_addGivers : Cond.code yX2_addGivers cX2_addGivers 6 (Option.none : Option Jvm.ClassFile.FieldType) ∈ lw_tbl := List.mem_of_getElem? (i := 584) (by decide +kernel)
theorem tM_RX2_58 : Cond.methodLink RX2 58 yX5_addLoads ∈ lw_tbl := List.mem_of_getElem? (i := 585) (by decide +kernel)
theorem tM_RX2_50 : Cond.methodLink RX2 50 yX1_goOnTo ∈ lw_tbl := List.mem_of_getElem? (i := 586) (by decide +kernel)
theorem tM_RX2_54 : Cond.methodLink RX2 54 yX5_figures ∈ lw_tbl := List.mem_of_getElem? (i := 587) (by decide +kernel)
theorem tM_RL_99 : Cond.methodLink RL 99 yX7_rests ∈ lw_tbl := List.mem_of_getElem? (i := 588) (by decide +kernel)
theorem tI_yX7_rests : Cond.instanceMethod yX7_rests ∈ lw_tbl := List.mem_of_getElem? (i := 589) (by decide +kernel)
theorem tS_yX7_rests : Cond.selects RX7 yX7_rests yX7_rests ∈ lw_tbl := List.mem_of_getElem? (i := 590) (by decide +kernel)
theorem tC_yX7_rests : Cond.code yX7_rests cX7_rests 5 (Option.some Jvm.ClassFile.FieldType.int) ∈ lw_tbl := List.mem_of_getElem? (i := 591) (by decide +kernel)
theorem tM_RX7_204 : Cond.methodLink RX7 204 yX2_findRests ∈ lw_tbl := List.mem_of_getElem? (i := 592) (by decide +kernel)
theorem tI_yX2_findRests : Cond.instanceMethod yX2_findRests ∈ lw_tbl := List.mem_of_getElem? (i := 593) (by decide +kernel)
theorem tS_yX2_findRests : Cond.selects RX2 yX2_findRests yX2_findRests ∈ lw_tbl := List.mem_of_getElem? (i := 594) (by decide +kernel)
theorem tC_yX2_findRests : Cond.code yX2_findRests cX2_findRests 7 (Option.none : Option Jvm.ClassFile.FieldType) ∈ lw_tbl := List.mem_of_getElem? (i := 595) (by decide +kernel)
theorem tM_RX2_62 : Cond.methodLink RX2 62 yX2_findLosses ∈ lw_tbl := List.mem_of_getElem? (i := 596) (by decide +kernel)
theorem tI_yX2_findLosses : Cond.instanceMethod yX2_findLosses ∈ lw_tbl := List.mem_of_getElem? (i := 598) (by decide +kernel)
theorem tC_yX2_findLosses : Cond.code yX2_findLosses cX2_findLosses 8 (Option.none : Option Jvm.ClassFile.FieldType) ∈ lw_tbl := List.mem_of_getElem? (i := 599) (by decide +kernel)
theorem tM_RX2_76 : Cond.methodLink RX2 76 yX5_placeOf ∈ lw_tbl := List.mem_of_getElem? (i := 600) (by decide +kernel)
theorem tM_RX2_69 : Cond.methodLink RX2 69 yX2_isAtRest ∈ lw_tbl := List.mem_of_getElem? (i := 601) (by decide +kernel)
theorem tI_yX2_isAtRest : Cond.instanceMethod yX2_isAtRest ∈ lw_tbl := List.mem_of_getElem? (i := 603) (by decide +kernel)
theorem tC_yX2_isAtRest : Cond.code yX2_isAtRest cX2_isAtRest 4 (Option.some Jvm.ClassFile.FieldType.boolean) ∈ lw_tbl := List.mem_of_getElem? (i := 604) (by decide +kernel)
theorem tM_RL_104 : Cond.methodLink RL 104 yX7_asleep ∈ lw_tbl := List.mem_of_getElem? (i := 605) (by decide +kernel)
theorem tI_yX7_asleep : Cond.instanceMethod yX7_asleep ∈ lw_tbl := List.mem_of_getElem? (i := 606) (by decide +kernel)
theorem tS_yX7_asleep : Cond.selects RX7 yX7_asleep yX7_asleep ∈ lw_tbl := List.mem_of_getElem? (i := 607) (by decide +kernel)
theorem tC_yX7_asleep : Cond.code yX7_asleep cX7_asleep 6 (Option.some Jvm.ClassFile.FieldType.int) ∈ lw_tbl := List.mem_of_getElem? (i := 608) (by decide +kernel)
theorem tM_RX7_211 : Cond.methodLink RX7 211 yX7_power ∈ lw_tbl := List.mem_of_getElem? (i := 609) (by decide +kernel)
theorem tT_yX7_power : Cond.static yX7_power ∈ lw_tbl := List.mem_of_getElem? (i := 610) (by decide +kernel)
theorem tC_yX7_power : Cond.code yX7_power cX7_power 4 (Option.some Jvm.ClassFile.FieldType.int) ∈ lw_tbl := List.mem_of_getElem? (i := 611) (by decide +kernel)
theorem tM_RX7_214 : Cond.methodLink RX7 214 yX2_asleepAbove ∈ lw_tbl := List.mem_of_getElem? (i := 612) (by decide +kernel)
theorem tI_yX2_asleepAbove : Cond.instanceMethod yX2_asleepAbove ∈ lw_tbl := List.mem_of_getElem? (i := 613) (by decide +kernel)
theorem tS_yX2_asleepAbove : Cond.selects RX2 yX2_asleepAbove yX2_asleepAbove ∈ lw_tbl := List.mem_of_getElem? (i := 614) (by decide +kernel)
theorem tC_yX2_asleepAbove : Cond.code yX2_asleepAbove cX2_asleepAbove 9 (Option.some Jvm.ClassFile.FieldType.int) ∈ lw_tbl := List.mem_of_getElem? (i := 615) (by decide +kernel)
theorem tM_RX2_80 : Cond.methodLink RX2 80 yX1_locksLeft ∈ lw_tbl := List.mem_of_getElem? (i := 616) (by decide +kernel)
theorem tM_RX2_83 : Cond.methodLink RX2 83 yX2_isAtWith ∈ lw_tbl := List.mem_of_getElem? (i := 617) (by decide +kernel)
theorem tI_yX2_isAtWith : Cond.instanceMethod yX2_isAtWith ∈ lw_tbl := List.mem_of_getElem? (i := 619) (by decide +kernel)
theorem tC_yX2_isAtWith : Cond.code yX2_isAtWith cX2_isAtWith 7 (Option.some Jvm.ClassFile.FieldType.boolean) ∈ lw_tbl := List.mem_of_getElem? (i := 620) (by decide +kernel)
theorem tM_RX2_98 : Cond.methodLink RX2 98 yX5_isAt ∈ lw_tbl := List.mem_of_getElem? (i := 621) (by decide +kernel)
theorem tM_RX2_86 : Cond.methodLink RX2 86 yJ6_bitCount_0f7a4 ∈ lw_tbl := List.mem_of_getElem? (i := 622) (by decide +kernel)
theorem tQ_RX2_91 : Cond.methodLinkNest RX2 91 yX7_power "EelLocks" ∈ lw_tbl := List.mem_of_getElem? (i := 623) (by decide +kernel)
theorem tM_RL_111 : Cond.methodLink RL 111 yX7_seed ∈ lw_tbl := List.mem_of_getElem? (i := 624) (by decide +kernel)
theorem tI_yX7_seed : Cond.instanceMethod yX7_seed ∈ lw_tbl := List.mem_of_getElem? (i := 625) (by decide +kernel)
theorem tS_yX7_seed : Cond.selects RX7 yX7_seed yX7_seed ∈ lw_tbl := List.mem_of_getElem? (i := 626) (by decide +kernel)
theorem tC_yX7_seed : Cond.code yX7_seed cX7_seed 5 (Option.some Jvm.ClassFile.FieldType.long) ∈ lw_tbl := List.mem_of_getElem? (i := 627) (by decide +kernel)
theorem tM_RL_116 : Cond.methodLink RL 116 yX7_days ∈ lw_tbl := List.mem_of_getElem? (i := 628) (by decide +kernel)
theorem tI_yX7_days : Cond.instanceMethod yX7_days ∈ lw_tbl := List.mem_of_getElem? (i := 629) (by decide +kernel)
theorem tS_yX7_days : Cond.selects RX7 yX7_days yX7_days ∈ lw_tbl := List.mem_of_getElem? (i := 630) (by decide +kernel)
theorem tC_yX7_days : Cond.code yX7_days cX7_days 6 (Option.some Jvm.ClassFile.FieldType.int) ∈ lw_tbl := List.mem_of_getElem? (i := 631) (by decide +kernel)
theorem tK_RX7_222 : Cond.constantLong RX7 222 (6364136223846793005) ∈ lw_tbl := List.mem_of_getElem? (i := 632) (by decide +kernel)
theorem tK_RX7_224 : Cond.constantLong RX7 224 (1442695040888963407) ∈ lw_tbl := List.mem_of_getElem? (i := 633) (by decide +kernel)
theorem tK_RX7_226 : Cond.constantLong RX7 226 (64) ∈ lw_tbl := List.mem_of_getElem? (i := 634) (by decide +kernel)
theorem tM_RX7_228 : Cond.methodLink RX7 228 yX2_isFirstIfAllGive ∈ lw_tbl := List.mem_of_getElem? (i := 635) (by decide +kernel)
theorem tI_yX2_isFirstIfAllGive : Cond.instanceMethod yX2_isFirstIfAllGive ∈ lw_tbl := List.mem_of_getElem? (i := 636) (by decide +kernel)
theorem tS_yX2_isFirstIfAllGive : Cond.selects RX2 yX2_isFirstIfAllGive yX2_isFirstIfAllGive ∈ lw_tbl := List.mem_of_getElem? (i := 637) (by decide +kernel)
theorem tC_yX2_isFirstIfAllGive : Cond.code yX2_isFirstIfAllGive cX2_isFirstIfAllGive 6 (Option.some Jvm.ClassFile.FieldType.boolean) ∈ lw_tbl := List.mem_of_getElem? (i := 638) (by decide +kernel)
theorem tM_RL_120 : Cond.methodLink RL 120 yX7_keep ∈ lw_tbl := List.mem_of_getElem? (i := 639) (by decide +kernel)
theorem tI_yX7_keep : Cond.instanceMethod yX7_keep ∈ lw_tbl := List.mem_of_getElem? (i := 640) (by decide +kernel)
theorem tS_yX7_keep : Cond.selects RX7 yX7_keep yX7_keep ∈ lw_tbl := List.mem_of_getElem? (i := 641) (by decide +kernel)
theorem tC_yX7_keep : Cond.code yX7_keep cX7_keep 2 (Option.some Jvm.ClassFile.FieldType.int) ∈ lw_tbl := List.mem_of_getElem? (i := 642) (by decide +kernel)
theorem tM_RX7_232 : Cond.methodLink RX7 232 yX4_put ∈ lw_tbl := List.mem_of_getElem? (i := 643) (by decide +kernel)
theorem tI_yX4_put : Cond.instanceMethod yX4_put ∈ lw_tbl := List.mem_of_getElem? (i := 644) (by decide +kernel)
theorem tS_yX4_put : Cond.selects RX4 yX4_put yX4_put ∈ lw_tbl := List.mem_of_getElem? (i := 645) (by decide +kernel)
theorem tC_yX4_put : Cond.code yX4_put cX4_put 3 (Option.none : Option Jvm.ClassFile.FieldType) ∈ lw_tbl := List.mem_of_getElem? (i := 646) (by decide +kernel)
theorem tM_RX4_22 : Cond.methodLink RX4 22 yX5_copyFrom ∈ lw_tbl := List.mem_of_getElem? (i := 647) (by decide +kernel)
theorem tM_RL_124 : Cond.methodLink RL 124 yX7_again ∈ lw_tbl := List.mem_of_getElem? (i := 648) (by decide +kernel)
theorem tI_yX7_again : Cond.instanceMethod yX7_again ∈ lw_tbl := List.mem_of_getElem? (i := 649) (by decide +kernel)
theorem tS_yX7_again : Cond.selects RX7 yX7_again yX7_again ∈ lw_tbl := List.mem_of_getElem? (i := 650) (by decide +kernel)
theorem tC_yX7_again : Cond.code yX7_again cX7_again 2 (Option.some Jvm.ClassFile.FieldType.int) ∈ lw_tbl := List.mem_of_getElem? (i := 651) (by decide +kernel)
theorem tM_RX7_247 : Cond.methodLink RX7 247 yX5_copyFrom ∈ lw_tbl := List.mem_of_getElem? (i := 652) (by decide +kernel)
theorem tM_RL_128 : Cond.methodLink RL 128 yX7_count ∈ lw_tbl := List.mem_of_getElem? (i := 653) (by decide +kernel)
theorem tI_yX7_count : Cond.instanceMethod yX7_count ∈ lw_tbl := List.mem_of_getElem? (i := 654) (by decide +kernel)
theorem tS_yX7_count : Cond.selects RX7 yX7_count yX7_count ∈ lw_tbl := List.mem_of_getElem? (i := 655) (by decide +kernel)
theorem tC_yX7_count : Cond.code yX7_count cX7_count 2 (Option.some Jvm.ClassFile.FieldType.int) ∈ lw_tbl := List.mem_of_getElem? (i := 656) (by decide +kernel)
theorem tM_RX7_250 : Cond.methodLink RX7 250 yX7_sum ∈ lw_tbl := List.mem_of_getElem? (i := 657) (by decide +kernel)
theorem tT_yX7_sum : Cond.static yX7_sum ∈ lw_tbl := List.mem_of_getElem? (i := 658) (by decide +kernel)
theorem tC_yX7_sum : Cond.code yX7_sum cX7_sum 4 (Option.some Jvm.ClassFile.FieldType.int) ∈ lw_tbl := List.mem_of_getElem? (i := 659) (by decide +kernel)
theorem tM_RX7_257 : Cond.methodLink RX7 257 yX5_greatestHour ∈ lw_tbl := List.mem_of_getElem? (i := 660) (by decide +kernel)
theorem tL_RL_10 : Cond.classLink RL 10 RX8 ∈ lw_tbl := List.mem_of_getElem? (i := 661) (by decide +kernel)
theorem tB_RX8 : Cond.instantiable RX8 23 ∈ lw_tbl := List.mem_of_getElem? (i := 662) (by decide +kernel)
theorem tM_RL_12 : Cond.methodLink RL 12 yX8_init ∈ lw_tbl := List.mem_of_getElem? (i := 663) (by decide +kernel)
theorem tI_yX8_init : Cond.instanceMethod yX8_init ∈ lw_tbl := List.mem_of_getElem? (i := 664) (by decide +kernel)
theorem tC_yX8_init : Cond.code yX8_init cX8_init 1 (Option.none : Option Jvm.ClassFile.FieldType) ∈ lw_tbl := List.mem_of_getElem? (i := 665) (by decide +kernel)
theorem tM_RX8_1 : Cond.methodLink RX8 1 (⟨"java/lang/Object", "<init>", "()V"⟩ : MethodName) ∈ lw_tbl := List.mem_of_getElem? (i := 666) (by decide +kernel)
theorem tF_RX8_50 : Cond.fieldLink RX8 50 "EelLocksModel" "locks" "I" ∈ lw_tbl := List.mem_of_getElem? (i := 667) (by decide +kernel)
theorem tF_RX8_83 : Cond.fieldLink RX8 83 "EelLocksModel" "barges" "I" ∈ lw_tbl := List.mem_of_getElem? (i := 668) (by decide +kernel)
theorem tF_RX8_7 : Cond.fieldLink RX8 7 "EelLocksModel" "longs" "[I" ∈ lw_tbl := List.mem_of_getElem? (i := 669) (by decide +kernel)
theorem tF_RX8_13 : Cond.fieldLink RX8 13 "EelLocksModel" "heavy" "[I" ∈ lw_tbl := List.mem_of_getElem? (i := 670) (by decide +kernel)
theorem tF_RX8_16 : Cond.fieldLink RX8 16 "EelLocksModel" "now" "[I" ∈ lw_tbl := List.mem_of_getElem? (i := 671) (by decide +kernel)
theorem tF_RX8_19 : Cond.fieldLink RX8 19 "EelLocksModel" "readLaw" "[I" ∈ lw_tbl := List.mem_of_getElem? (i := 672) (by decide +kernel)
theorem tF_RX8_22 : Cond.fieldLink RX8 22 "EelLocksModel" "readBarge" "[I" ∈ lw_tbl := List.mem_of_getElem? (i := 673) (by decide +kernel)
theorem tF_RX8_69 : Cond.fieldLink RX8 69 "EelLocksModel" "readLocks" "I" ∈ lw_tbl := List.mem_of_getElem? (i := 674) (by decide +kernel)
theorem tF_RX8_72 : Cond.fieldLink RX8 72 "EelLocksModel" "readBarges" "I" ∈ lw_tbl := List.mem_of_getElem? (i := 675) (by decide +kernel)
theorem tF_RX8_25 : Cond.fieldLink RX8 25 "EelLocksModel" "text" "[I" ∈ lw_tbl := List.mem_of_getElem? (i := 676) (by decide +kernel)
theorem tF_RX8_60 : Cond.fieldLink RX8 60 "EelLocksModel" "length" "I" ∈ lw_tbl := List.mem_of_getElem? (i := 677) (by decide +kernel)
theorem tF_RX8_66 : Cond.fieldLink RX8 66 "EelLocksModel" "at" "I" ∈ lw_tbl := List.mem_of_getElem? (i := 678) (by decide +kernel)
theorem tF_RX8_63 : Cond.fieldLink RX8 63 "EelLocksModel" "faultAt" "I" ∈ lw_tbl := List.mem_of_getElem? (i := 679) (by decide +kernel)
theorem tF_RX8_28 : Cond.fieldLink RX8 28 "EelLocksModel" "with" "[I" ∈ lw_tbl := List.mem_of_getElem? (i := 680) (by decide +kernel)
theorem tF_RX8_86 : Cond.fieldLink RX8 86 "EelLocksModel" "acts" "I" ∈ lw_tbl := List.mem_of_getElem? (i := 681) (by decide +kernel)
theorem tF_RX8_111 : Cond.fieldLink RX8 111 "EelLocksModel" "next" "I" ∈ lw_tbl := List.mem_of_getElem? (i := 682) (by decide +kernel)
theorem tF_RX8_31 : Cond.fieldLink RX8 31 "EelLocksModel" "row" "[I" ∈ lw_tbl := List.mem_of_getElem? (i := 683) (by decide +kernel)
theorem tF_RX8_34 : Cond.fieldLink RX8 34 "EelLocksModel" "greatests" "[I" ∈ lw_tbl := List.mem_of_getElem? (i := 684) (by decide +kernel)
theorem tF_RX8_37 : Cond.fieldLink RX8 37 "EelLocksModel" "ones16" "[I" ∈ lw_tbl := List.mem_of_getElem? (i := 685) (by decide +kernel)
theorem tF_RX8_40 : Cond.fieldLink RX8 40 "EelLocksModel" "others16" "[I" ∈ lw_tbl := List.mem_of_getElem? (i := 686) (by decide +kernel)
theorem tF_RX8_187 : Cond.fieldLink RX8 187 "EelLocksModel" "seed" "J" ∈ lw_tbl := List.mem_of_getElem? (i := 687) (by decide +kernel)
theorem tF_RX8_43 : Cond.fieldLink RX8 43 "EelLocksModel" "isKept" "[Z" ∈ lw_tbl := List.mem_of_getElem? (i := 688) (by decide +kernel)
theorem tF_RX8_47 : Cond.fieldLink RX8 47 "EelLocksModel" "kept" "[I" ∈ lw_tbl := List.mem_of_getElem? (i := 689) (by decide +kernel)
theorem tM_RL_17 : Cond.methodLink RL 17 yX8_write ∈ lw_tbl := List.mem_of_getElem? (i := 737) (by decide +kernel)
theorem tI_yX8_write : Cond.instanceMethod yX8_write ∈ lw_tbl := List.mem_of_getElem? (i := 738) (by decide +kernel)
theorem tS_yX8_write : Cond.selects RX8 yX8_write yX8_write ∈ lw_tbl := List.mem_of_getElem? (i := 739) (by decide +kernel)
theorem tC_yX8_write : Cond.code yX8_write cX8_write 2 (Option.some Jvm.ClassFile.FieldType.int) ∈ lw_tbl := List.mem_of_getElem? (i := 740) (by decide +kernel)
theorem tK_RX8_54 : Cond.constantLong RX8 54 (255) ∈ lw_tbl := List.mem_of_getElem? (i := 741) (by decide +kernel)
theorem tM_RX8_56 : Cond.methodLink RX8 56 yX8_in ∈ lw_tbl := List.mem_of_getElem? (i := 742) (by decide +kernel)
theorem tT_yX8_in : Cond.static yX8_in ∈ lw_tbl := List.mem_of_getElem? (i := 743) (by decide +kernel)
theorem tC_yX8_in : Cond.code yX8_in cX8_in 6 (Option.some Jvm.ClassFile.FieldType.boolean) ∈ lw_tbl := List.mem_of_getElem? (i := 744) (by decide +kernel)
theorem tM_RL_22 : Cond.methodLink RL 22 yX8_wipe ∈ lw_tbl := List.mem_of_getElem? (i := 745) (by decide +kernel)
theorem tI_yX8_wipe : Cond.instanceMethod yX8_wipe ∈ lw_tbl := List.mem_of_getElem? (i := 746) (by decide +kernel)
theorem tS_yX8_wipe : Cond.selects RX8 yX8_wipe yX8_wipe ∈ lw_tbl := List.mem_of_getElem? (i := 747) (by decide +kernel)
theorem tC_yX8_wipe : Cond.code yX8_wipe cX8_wipe 2 (Option.some Jvm.ClassFile.FieldType.int) ∈ lw_tbl := List.mem_of_getElem? (i := 748) (by decide +kernel)
theorem tM_RL_26 : Cond.methodLink RL 26 yX8_fault ∈ lw_tbl := List.mem_of_getElem? (i := 749) (by decide +kernel)
theorem tI_yX8_fault : Cond.instanceMethod yX8_fault ∈ lw_tbl := List.mem_of_getElem? (i := 750) (by decide +kernel)
theorem tS_yX8_fault : Cond.selects RX8 yX8_fault yX8_fault ∈ lw_tbl := List.mem_of_getElem? (i := 751) (by decide +kernel)
theorem tC_yX8_fault : Cond.code yX8_fault cX8_fault 1 (Option.some Jvm.ClassFile.FieldType.int) ∈ lw_tbl := List.mem_of_getElem? (i := 752) (by decide +kernel)
theorem tM_RX8_79 : Cond.methodLink RX8 79 yX8_readText ∈ lw_tbl := List.mem_of_getElem? (i := 753) (by decide +kernel)
theorem tI_yX8_readText : Cond.instanceMethod yX8_readText ∈ lw_tbl := List.mem_of_getElem? (i := 755) (by decide +kernel)
theorem tC_yX8_readText : Cond.code yX8_readText cX8_readText 1 (Option.some Jvm.ClassFile.FieldType.int) ∈ lw_tbl := List.mem_of_getElem? (i := 756) (by decide +kernel)
theorem tM_RX8_75 : Cond.methodLink RX8 75 yX8_figure ∈ lw_tbl := List.mem_of_getElem? (i := 757) (by decide +kernel)
theorem tI_yX8_figure : Cond.instanceMethod yX8_figure ∈ lw_tbl := List.mem_of_getElem? (i := 759) (by decide +kernel)
theorem tC_yX8_figure : Cond.code yX8_figure cX8_figure 4 (Option.some Jvm.ClassFile.FieldType.int) ∈ lw_tbl := List.mem_of_getElem? (i := 760) (by decide +kernel)
theorem tM_RL_30 : Cond.methodLink RL 30 yX8_canal ∈ lw_tbl := List.mem_of_getElem? (i := 761) (by decide +kernel)
theorem tI_yX8_canal : Cond.instanceMethod yX8_canal ∈ lw_tbl := List.mem_of_getElem? (i := 762) (by decide +kernel)
theorem tS_yX8_canal : Cond.selects RX8 yX8_canal yX8_canal ∈ lw_tbl := List.mem_of_getElem? (i := 763) (by decide +kernel)
theorem tC_yX8_canal : Cond.code yX8_canal cX8_canal 2 (Option.some Jvm.ClassFile.FieldType.int) ∈ lw_tbl := List.mem_of_getElem? (i := 764) (by decide +kernel)
theorem tM_RL_35 : Cond.methodLink RL 35 yX8_barge ∈ lw_tbl := List.mem_of_getElem? (i := 765) (by decide +kernel)
theorem tI_yX8_barge : Cond.instanceMethod yX8_barge ∈ lw_tbl := List.mem_of_getElem? (i := 766) (by decide +kernel)
theorem tS_yX8_barge : Cond.selects RX8 yX8_barge yX8_barge ∈ lw_tbl := List.mem_of_getElem? (i := 767) (by decide +kernel)
theorem tC_yX8_barge : Cond.code yX8_barge cX8_barge 3 (Option.some Jvm.ClassFile.FieldType.int) ∈ lw_tbl := List.mem_of_getElem? (i := 768) (by decide +kernel)
theorem tM_RX8_89 : Cond.methodLink RX8 89 yX8_isBarge ∈ lw_tbl := List.mem_of_getElem? (i := 769) (by decide +kernel)
theorem tI_yX8_isBarge : Cond.instanceMethod yX8_isBarge ∈ lw_tbl := List.mem_of_getElem? (i := 771) (by decide +kernel)
theorem tC_yX8_isBarge : Cond.code yX8_isBarge cX8_isBarge 2 (Option.some Jvm.ClassFile.FieldType.boolean) ∈ lw_tbl := List.mem_of_getElem? (i := 772) (by decide +kernel)
theorem tM_RX8_93 : Cond.methodLink RX8 93 yX8_placeOf ∈ lw_tbl := List.mem_of_getElem? (i := 773) (by decide +kernel)
theorem tI_yX8_placeOf : Cond.instanceMethod yX8_placeOf ∈ lw_tbl := List.mem_of_getElem? (i := 775) (by decide +kernel)
theorem tC_yX8_placeOf : Cond.code yX8_placeOf cX8_placeOf 6 (Option.some Jvm.ClassFile.FieldType.int) ∈ lw_tbl := List.mem_of_getElem? (i := 776) (by decide +kernel)
theorem tM_RL_39 : Cond.methodLink RL 39 yX8_lock ∈ lw_tbl := List.mem_of_getElem? (i := 777) (by decide +kernel)
theorem tI_yX8_lock : Cond.instanceMethod yX8_lock ∈ lw_tbl := List.mem_of_getElem? (i := 778) (by decide +kernel)
theorem tS_yX8_lock : Cond.selects RX8 yX8_lock yX8_lock ∈ lw_tbl := List.mem_of_getElem? (i := 779) (by decide +kernel)
theorem tC_yX8_lock : Cond.code yX8_lock cX8_lock 3 (Option.some Jvm.ClassFile.FieldType.int) ∈ lw_tbl := List.mem_of_getElem? (i := 780) (by decide +kernel)
theorem tM_RX8_97 : Cond.methodLink RX8 97 yX8_isLock ∈ lw_tbl := List.mem_of_getElem? (i := 781) (by decide +kernel)
theorem tI_yX8_isLock : Cond.instanceMethod yX8_isLock ∈ lw_tbl := List.mem_of_getElem? (i := 783) (by decide +kernel)
theorem tC_yX8_isLock : Cond.code yX8_isLock cX8_isLock 2 (Option.some Jvm.ClassFile.FieldType.boolean) ∈ lw_tbl := List.mem_of_getElem? (i := 784) (by decide +kernel)
theorem tM_RX8_100 : Cond.methodLink RX8 100 yX8_givenAt ∈ lw_tbl := List.mem_of_getElem? (i := 785) (by decide +kernel)
theorem tI_yX8_givenAt : Cond.instanceMethod yX8_givenAt ∈ lw_tbl := List.mem_of_getElem? (i := 787) (by decide +kernel)
theorem tC_yX8_givenAt : Cond.code yX8_givenAt cX8_givenAt 4 (Option.some Jvm.ClassFile.FieldType.int) ∈ lw_tbl := List.mem_of_getElem? (i := 788) (by decide +kernel)
theorem tM_RL_43 : Cond.methodLink RL 43 yX8_pass ∈ lw_tbl := List.mem_of_getElem? (i := 789) (by decide +kernel)
theorem tI_yX8_pass : Cond.instanceMethod yX8_pass ∈ lw_tbl := List.mem_of_getElem? (i := 790) (by decide +kernel)
theorem tS_yX8_pass : Cond.selects RX8 yX8_pass yX8_pass ∈ lw_tbl := List.mem_of_getElem? (i := 791) (by decide +kernel)
theorem tC_yX8_pass : Cond.code yX8_pass cX8_pass 1 (Option.some Jvm.ClassFile.FieldType.int) ∈ lw_tbl := List.mem_of_getElem? (i := 792) (by decide +kernel)
theorem tM_RX8_114 : Cond.methodLink RX8 114 yX8_keepAct ∈ lw_tbl := List.mem_of_getElem? (i := 793) (by decide +kernel)
theorem tI_yX8_keepAct : Cond.instanceMethod yX8_keepAct ∈ lw_tbl := List.mem_of_getElem? (i := 795) (by decide +kernel)
theorem tC_yX8_keepAct : Cond.code yX8_keepAct cX8_keepAct 2 (Option.none : Option Jvm.ClassFile.FieldType) ∈ lw_tbl := List.mem_of_getElem? (i := 796) (by decide +kernel)
theorem tM_RX8_117 : Cond.methodLink RX8 117 yX8_passOn ∈ lw_tbl := List.mem_of_getElem? (i := 797) (by decide +kernel)
theorem tI_yX8_passOn : Cond.instanceMethod yX8_passOn ∈ lw_tbl := List.mem_of_getElem? (i := 799) (by decide +kernel)
theorem tC_yX8_passOn : Cond.code yX8_passOn cX8_passOn 11 (Option.none : Option Jvm.ClassFile.FieldType) ∈ lw_tbl := List.mem_of_getElem? (i := 800) (by decide +kernel)
theorem tM_RX8_104 : Cond.methodLink RX8 104 yX8_more ∈ lw_tbl := List.mem_of_getElem? (i := 801) (by decide +kernel)
theorem tT_yX8_more : Cond.static yX8_more ∈ lw_tbl := List.mem_of_getElem? (i := 802) (by decide +kernel)
theorem tC_yX8_more : Cond.code yX8_more cX8_more 2 (Option.some Jvm.ClassFile.FieldType.int) ∈ lw_tbl := List.mem_of_getElem? (i := 803) (by decide +kernel)
theorem tM_RX8_107 : Cond.methodLink RX8 107 yX8_isChanged ∈ lw_tbl := List.mem_of_getElem? (i := 804) (by decide +kernel)
theorem tI_yX8_isChanged : Cond.instanceMethod yX8_isChanged ∈ lw_tbl := List.mem_of_getElem? (i := 806) (by decide +kernel)
theorem tC_yX8_isChanged : Cond.code yX8_isChanged cX8_isChanged 6 (Option.some Jvm.ClassFile.FieldType.boolean) ∈ lw_tbl := List.mem_of_getElem? (i := 807) (by decide +kernel)
theorem tM_RX8_121 : Cond.methodLink RX8 121 yX8_figuresOf ∈ lw_tbl := List.mem_of_getElem? (i := 808) (by decide +kernel)
theorem tI_yX8_figuresOf : Cond.instanceMethod yX8_figuresOf ∈ lw_tbl := List.mem_of_getElem? (i := 810) (by decide +kernel)
theorem tC_yX8_figuresOf : Cond.code yX8_figuresOf cX8_figuresOf 5 (Option.some Jvm.ClassFile.FieldType.int) ∈ lw_tbl := List.mem_of_getElem? (i := 811) (by decide +kernel)
theorem tM_RL_47 : Cond.methodLink RL 47 yX8_give ∈ lw_tbl := List.mem_of_getElem? (i := 812) (by decide +kernel)
theorem tI_yX8_give : Cond.instanceMethod yX8_give ∈ lw_tbl := List.mem_of_getElem? (i := 813) (by decide +kernel)
theorem tS_yX8_give : Cond.selects RX8 yX8_give yX8_give ∈ lw_tbl := List.mem_of_getElem? (i := 814) (by decide +kernel)
theorem tC_yX8_give : Cond.code yX8_give cX8_give 3 (Option.some Jvm.ClassFile.FieldType.int) ∈ lw_tbl := List.mem_of_getElem? (i := 815) (by decide +kernel)
theorem tM_RL_51 : Cond.methodLink RL 51 yX8_letBy ∈ lw_tbl := List.mem_of_getElem? (i := 816) (by decide +kernel)
theorem tI_yX8_letBy : Cond.instanceMethod yX8_letBy ∈ lw_tbl := List.mem_of_getElem? (i := 817) (by decide +kernel)
theorem tS_yX8_letBy : Cond.selects RX8 yX8_letBy yX8_letBy ∈ lw_tbl := List.mem_of_getElem? (i := 818) (by decide +kernel)
theorem tC_yX8_letBy : Cond.code yX8_letBy cX8_letBy 3 (Option.some Jvm.ClassFile.FieldType.int) ∈ lw_tbl := List.mem_of_getElem? (i := 819) (by decide +kernel)
theorem tM_RL_55 : Cond.methodLink RL 55 yX8_learn ∈ lw_tbl := List.mem_of_getElem? (i := 820) (by decide +kernel)
theorem tI_yX8_learn : Cond.instanceMethod yX8_learn ∈ lw_tbl := List.mem_of_getElem? (i := 821) (by decide +kernel)
theorem tS_yX8_learn : Cond.selects RX8 yX8_learn yX8_learn ∈ lw_tbl := List.mem_of_getElem? (i := 822) (by decide +kernel)
theorem tC_yX8_learn : Cond.code yX8_learn cX8_learn 4 (Option.some Jvm.ClassFile.FieldType.int) ∈ lw_tbl := List.mem_of_getElem? (i := 823) (by decide +kernel)
theorem tK_RX8_124 : Cond.constantLong RX8 124 (3) ∈ lw_tbl := List.mem_of_getElem? (i := 824) (by decide +kernel)
theorem tM_RL_59 : Cond.methodLink RL 59 yX8_undo ∈ lw_tbl := List.mem_of_getElem? (i := 825) (by decide +kernel)
theorem tI_yX8_undo : Cond.instanceMethod yX8_undo ∈ lw_tbl := List.mem_of_getElem? (i := 826) (by decide +kernel)
theorem tS_yX8_undo : Cond.selects RX8 yX8_undo yX8_undo ∈ lw_tbl := List.mem_of_getElem? (i := 827) (by decide +kernel)
theorem tC_yX8_undo : Cond.code yX8_undo cX8_undo 2 (Option.some Jvm.ClassFile.FieldType.int) ∈ lw_tbl := List.mem_of_getElem? (i := 828) (by decide +kernel)
theorem tM_RL_63 : Cond.methodLink RL 63 yX8_basin ∈ lw_tbl := List.mem_of_getElem? (i := 829) (by decide +kernel)
theorem tI_yX8_basin : Cond.instanceMethod yX8_basin ∈ lw_tbl := List.mem_of_getElem? (i := 830) (by decide +kernel)
theorem tS_yX8_basin : Cond.selects RX8 yX8_basin yX8_basin ∈ lw_tbl := List.mem_of_getElem? (i := 831) (by decide +kernel)
theorem tC_yX8_basin : Cond.code yX8_basin cX8_basin 1 (Option.some Jvm.ClassFile.FieldType.int) ∈ lw_tbl := List.mem_of_getElem? (i := 832) (by decide +kernel)
theorem tM_RX8_133 : Cond.methodLink RX8 133 yX8_layBasin ∈ lw_tbl := List.mem_of_getElem? (i := 833) (by decide +kernel)
theorem tI_yX8_layBasin : Cond.instanceMethod yX8_layBasin ∈ lw_tbl := List.mem_of_getElem? (i := 835) (by decide +kernel)
theorem tC_yX8_layBasin : Cond.code yX8_layBasin cX8_layBasin 1 (Option.none : Option Jvm.ClassFile.FieldType) ∈ lw_tbl := List.mem_of_getElem? (i := 836) (by decide +kernel)
theorem tM_RX8_126 : Cond.methodLink RX8 126 yX8_layTrial ∈ lw_tbl := List.mem_of_getElem? (i := 837) (by decide +kernel)
theorem tI_yX8_layTrial : Cond.instanceMethod yX8_layTrial ∈ lw_tbl := List.mem_of_getElem? (i := 839) (by decide +kernel)
theorem tC_yX8_layTrial : Cond.code yX8_layTrial cX8_layTrial 2 (Option.none : Option Jvm.ClassFile.FieldType) ∈ lw_tbl := List.mem_of_getElem? (i := 840) (by decide +kernel)
theorem tM_RX8_129 : Cond.methodLink RX8 129 yX8_passAll ∈ lw_tbl := List.mem_of_getElem? (i := 841) (by decide +kernel)
theorem tI_yX8_passAll : Cond.instanceMethod yX8_passAll ∈ lw_tbl := List.mem_of_getElem? (i := 843) (by decide +kernel)
theorem tC_yX8_passAll : Cond.code yX8_passAll cX8_passAll 2 (Option.none : Option Jvm.ClassFile.FieldType) ∈ lw_tbl := List.mem_of_getElem? (i := 844) (by decide +kernel)
theorem tM_RL_67 : Cond.methodLink RL 67 yX8_hour ∈ lw_tbl := List.mem_of_getElem? (i := 845) (by decide +kernel)
theorem tI_yX8_hour : Cond.instanceMethod yX8_hour ∈ lw_tbl := List.mem_of_getElem? (i := 846) (by decide +kernel)
theorem tS_yX8_hour : Cond.selects RX8 yX8_hour yX8_hour ∈ lw_tbl := List.mem_of_getElem? (i := 847) (by decide +kernel)
theorem tC_yX8_hour : Cond.code yX8_hour cX8_hour 2 (Option.some Jvm.ClassFile.FieldType.int) ∈ lw_tbl := List.mem_of_getElem? (i := 848) (by decide +kernel)
theorem tM_RL_71 : Cond.methodLink RL 71 yX8_gains ∈ lw_tbl := List.mem_of_getElem? (i := 849) (by decide +kernel)
theorem tI_yX8_gains : Cond.instanceMethod yX8_gains ∈ lw_tbl := List.mem_of_getElem? (i := 850) (by decide +kernel)
theorem tS_yX8_gains : Cond.selects RX8 yX8_gains yX8_gains ∈ lw_tbl := List.mem_of_getElem? (i := 851) (by decide +kernel)
theorem tC_yX8_gains : Cond.code yX8_gains cX8_gains 5 (Option.some Jvm.ClassFile.FieldType.int) ∈ lw_tbl := List.mem_of_getElem? (i := 852) (by decide +kernel)
theorem tM_RL_75 : Cond.methodLink RL 75 yX8_mates ∈ lw_tbl := List.mem_of_getElem? (i := 853) (by decide +kernel)
theorem tI_yX8_mates : Cond.instanceMethod yX8_mates ∈ lw_tbl := List.mem_of_getElem? (i := 854) (by decide +kernel)
theorem tS_yX8_mates : Cond.selects RX8 yX8_mates yX8_mates ∈ lw_tbl := List.mem_of_getElem? (i := 855) (by decide +kernel)
theorem tC_yX8_mates : Cond.code yX8_mates cX8_mates 2 (Option.some Jvm.ClassFile.FieldType.int) ∈ lw_tbl := List.mem_of_getElem? (i := 856) (by decide +kernel)
theorem tM_RL_79 : Cond.methodLink RL 79 yX8_first ∈ lw_tbl := List.mem_of_getElem? (i := 857) (by decide +kernel)
theorem tI_yX8_first : Cond.instanceMethod yX8_first ∈ lw_tbl := List.mem_of_getElem? (i := 858) (by decide +kernel)
theorem tS_yX8_first : Cond.selects RX8 yX8_first yX8_first ∈ lw_tbl := List.mem_of_getElem? (i := 859) (by decide +kernel)
theorem tC_yX8_first : Cond.code yX8_first cX8_first 5 (Option.some Jvm.ClassFile.FieldType.int) ∈ lw_tbl := List.mem_of_getElem? (i := 860) (by decide +kernel)
theorem tM_RX8_136 : Cond.methodLink RX8 136 yX8_factorial ∈ lw_tbl := List.mem_of_getElem? (i := 861) (by decide +kernel)
theorem tT_yX8_factorial : Cond.static yX8_factorial ∈ lw_tbl := List.mem_of_getElem? (i := 862) (by decide +kernel)
theorem tC_yX8_factorial : Cond.code yX8_factorial cX8_factorial 3 (Option.some Jvm.ClassFile.FieldType.int) ∈ lw_tbl := List.mem_of_getElem? (i := 863) (by decide +kernel)
theorem tM_RX8_143 : Cond.methodLink RX8 143 yX8_layOrder ∈ lw_tbl := List.mem_of_getElem? (i := 864) (by decide +kernel)
theorem tI_yX8_layOrder : Cond.instanceMethod yX8_layOrder ∈ lw_tbl := List.mem_of_getElem? (i := 866) (by decide +kernel)
theorem tC_yX8_layOrder : Cond.code yX8_layOrder cX8_layOrder 9 (Option.none : Option Jvm.ClassFile.FieldType) ∈ lw_tbl := List.mem_of_getElem? (i := 867) (by decide +kernel)
theorem tM_RX8_139 : Cond.methodLink RX8 139 yX8_has ∈ lw_tbl := List.mem_of_getElem? (i := 868) (by decide +kernel)
theorem tT_yX8_has : Cond.static yX8_has ∈ lw_tbl := List.mem_of_getElem? (i := 869) (by decide +kernel)
theorem tC_yX8_has : Cond.code yX8_has cX8_has 2 (Option.some Jvm.ClassFile.FieldType.boolean) ∈ lw_tbl := List.mem_of_getElem? (i := 870) (by decide +kernel)
theorem tM_RX8_146 : Cond.methodLink RX8 146 yX8_isSo ∈ lw_tbl := List.mem_of_getElem? (i := 871) (by decide +kernel)
theorem tI_yX8_isSo : Cond.instanceMethod yX8_isSo ∈ lw_tbl := List.mem_of_getElem? (i := 873) (by decide +kernel)
theorem tC_yX8_isSo : Cond.code yX8_isSo cX8_isSo 3 (Option.some Jvm.ClassFile.FieldType.boolean) ∈ lw_tbl := List.mem_of_getElem? (i := 874) (by decide +kernel)
theorem tM_RL_84 : Cond.methodLink RL 84 yX8_tea ∈ lw_tbl := List.mem_of_getElem? (i := 875) (by decide +kernel)
theorem tI_yX8_tea : Cond.instanceMethod yX8_tea ∈ lw_tbl := List.mem_of_getElem? (i := 876) (by decide +kernel)
theorem tS_yX8_tea : Cond.selects RX8 yX8_tea yX8_tea ∈ lw_tbl := List.mem_of_getElem? (i := 877) (by decide +kernel)
theorem tC_yX8_tea : Cond.code yX8_tea cX8_tea 5 (Option.some Jvm.ClassFile.FieldType.int) ∈ lw_tbl := List.mem_of_getElem? (i := 878) (by decide +kernel)
theorem tM_RX8_149 : Cond.methodLink RX8 149 yX8_giveTrial ∈ lw_tbl := List.mem_of_getElem? (i := 879) (by decide +kernel)
theorem tI_yX8_giveTrial : Cond.instanceMethod yX8_giveTrial ∈ lw_tbl := List.mem_of_getElem? (i := 881) (by decide +kernel)
theorem tC_yX8_giveTrial : Cond.code yX8_giveTrial cX8_giveTrial 4 (Option.some Jvm.ClassFile.FieldType.boolean) ∈ lw_tbl := List.mem_of_getElem? (i := 882) (by decide +kernel)
theorem tM_RL_88 : Cond.methodLink RL 88 yX8_judge ∈ lw_tbl := List.mem_of_getElem? (i := 883) (by decide +kernel)
theorem tI_yX8_judge : Cond.instanceMethod yX8_judge ∈ lw_tbl := List.mem_of_getElem? (i := 884) (by decide +kernel)
theorem tS_yX8_judge : Cond.selects RX8 yX8_judge yX8_judge ∈ lw_tbl := List.mem_of_getElem? (i := 885) (by decide +kernel)
theorem tC_yX8_judge : Cond.code yX8_judge cX8_judge 5 (Option.some Jvm.ClassFile.FieldType.int) ∈ lw_tbl := List.mem_of_getElem? (i := 886) (by decide +kernel)
theorem tK_RX8_152 : Cond.constantLong RX8 152 (6) ∈ lw_tbl := List.mem_of_getElem? (i := 887) (by decide +kernel)
theorem tM_RX8_154 : Cond.methodLink RX8 154 yX8_tenTo ∈ lw_tbl := List.mem_of_getElem? (i := 888) (by decide +kernel)
theorem tT_yX8_tenTo : Cond.static yX8_tenTo ∈ lw_tbl := List.mem_of_getElem? (i := 889) (by decide +kernel)
theorem tC_yX8_tenTo : Cond.code yX8_tenTo cX8_tenTo 3 (Option.some Jvm.ClassFile.FieldType.int) ∈ lw_tbl := List.mem_of_getElem? (i := 890) (by decide +kernel)
theorem tM_RL_93 : Cond.methodLink RL 93 yX8_share ∈ lw_tbl := List.mem_of_getElem? (i := 891) (by decide +kernel)
theorem tI_yX8_share : Cond.instanceMethod yX8_share ∈ lw_tbl := List.mem_of_getElem? (i := 892) (by decide +kernel)
theorem tS_yX8_share : Cond.selects RX8 yX8_share yX8_share ∈ lw_tbl := List.mem_of_getElem? (i := 893) (by decide +kernel)
theorem tC_yX8_share : Cond.code yX8_share cX8_share 6 (Option.some Jvm.ClassFile.FieldType.int) ∈ lw_tbl := List.mem_of_getElem? (i := 894) (by decide +kernel)
theorem tM_RX8_160 : Cond.methodLink RX8 160 yX8_hoursBy ∈ lw_tbl := List.mem_of_getElem? (i := 895) (by decide +kernel)
theorem tI_yX8_hoursBy : Cond.instanceMethod yX8_hoursBy ∈ lw_tbl := List.mem_of_getElem? (i := 897) (by decide +kernel)
theorem tC_yX8_hoursBy : Cond.code yX8_hoursBy cX8_hoursBy 4 (Option.some Jvm.ClassFile.FieldType.int) ∈ lw_tbl := List.mem_of_getElem? (i := 898) (by decide +kernel)
theorem tM_RX8_157 : Cond.methodLink RX8 157 yX8_greatest ∈ lw_tbl := List.mem_of_getElem? (i := 899) (by decide +kernel)
theorem tI_yX8_greatest : Cond.instanceMethod yX8_greatest ∈ lw_tbl := List.mem_of_getElem? (i := 901) (by decide +kernel)
theorem tC_yX8_greatest : Cond.code yX8_greatest cX8_greatest 5 (Option.some Jvm.ClassFile.FieldType.int) ∈ lw_tbl := List.mem_of_getElem? (i := 902) (by decide +kernel)
theorem tM_RX8_163 : Cond.methodLink RX8 163 yX8_ones ∈ lw_tbl := List.mem_of_getElem? (i := 903) (by decide +kernel)
theorem tT_yX8_ones : Cond.static yX8_ones ∈ lw_tbl := List.mem_of_getElem? (i := 904) (by decide +kernel)
theorem tC_yX8_ones : Cond.code yX8_ones cX8_ones 3 (Option.some Jvm.ClassFile.FieldType.int) ∈ lw_tbl := List.mem_of_getElem? (i := 905) (by decide +kernel)
theorem tM_RX8_166 : Cond.methodLink RX8 166 yX8_common ∈ lw_tbl := List.mem_of_getElem? (i := 906) (by decide +kernel)
theorem tT_yX8_common : Cond.static yX8_common ∈ lw_tbl := List.mem_of_getElem? (i := 907) (by decide +kernel)
theorem tC_yX8_common : Cond.code yX8_common cX8_common 5 (Option.some Jvm.ClassFile.FieldType.int) ∈ lw_tbl := List.mem_of_getElem? (i := 908) (by decide +kernel)
theorem tM_RL_98 : Cond.methodLink RL 98 yX8_gave ∈ lw_tbl := List.mem_of_getElem? (i := 909) (by decide +kernel)
theorem tI_yX8_gave : Cond.instanceMethod yX8_gave ∈ lw_tbl := List.mem_of_getElem? (i := 910) (by decide +kernel)
theorem tS_yX8_gave : Cond.selects RX8 yX8_gave yX8_gave ∈ lw_tbl := List.mem_of_getElem? (i := 911) (by decide +kernel)
theorem tC_yX8_gave : Cond.code yX8_gave cX8_gave 8 (Option.some Jvm.ClassFile.FieldType.int) ∈ lw_tbl := List.mem_of_getElem? (i := 912) (by decide +kernel)
theorem tM_RX8_169 : Cond.methodLink RX8 169 yX8_isOrder ∈ lw_tbl := List.mem_of_getElem? (i := 913) (by decide +kernel)
theorem tI_yX8_isOrder : Cond.instanceMethod yX8_isOrder ∈ lw_tbl := List.mem_of_getElem? (i := 915) (by decide +kernel)
theorem tC_yX8_isOrder : Cond.code yX8_isOrder cX8_isOrder 6 (Option.some Jvm.ClassFile.FieldType.boolean) ∈ lw_tbl := List.mem_of_getElem? (i := 916) (by decide +kernel)
theorem tK_RX8_172 : Cond.constantLong RX8 172 (2) ∈ lw_tbl := List.mem_of_getElem? (i := 917) (by decide +kernel)
theorem tM_RX8_174 : Cond.methodLink RX8 174 yX8_comesSo ∈ lw_tbl := List.mem_of_getElem? (i := 918) (by decide +kernel)
theorem tI_yX8_comesSo : Cond.instanceMethod yX8_comesSo ∈ lw_tbl := List.mem_of_getElem? (i := 920) (by decide +kernel)
theorem tC_yX8_comesSo : Cond.code yX8_comesSo cX8_comesSo 5 (Option.some Jvm.ClassFile.FieldType.boolean) ∈ lw_tbl := List.mem_of_getElem? (i := 921) (by decide +kernel)
theorem tM_RL_103 : Cond.methodLink RL 103 yX8_rests ∈ lw_tbl := List.mem_of_getElem? (i := 922) (by decide +kernel)
theorem tI_yX8_rests : Cond.instanceMethod yX8_rests ∈ lw_tbl := List.mem_of_getElem? (i := 923) (by decide +kernel)
theorem tS_yX8_rests : Cond.selects RX8 yX8_rests yX8_rests ∈ lw_tbl := List.mem_of_getElem? (i := 924) (by decide +kernel)
theorem tC_yX8_rests : Cond.code yX8_rests cX8_rests 8 (Option.some Jvm.ClassFile.FieldType.int) ∈ lw_tbl := List.mem_of_getElem? (i := 925) (by decide +kernel)
theorem tM_RX8_178 : Cond.methodLink RX8 178 yX8_layLosses ∈ lw_tbl := List.mem_of_getElem? (i := 926) (by decide +kernel)
theorem tI_yX8_layLosses : Cond.instanceMethod yX8_layLosses ∈ lw_tbl := List.mem_of_getElem? (i := 928) (by decide +kernel)
theorem tC_yX8_layLosses : Cond.code yX8_layLosses cX8_layLosses 5 (Option.none : Option Jvm.ClassFile.FieldType) ∈ lw_tbl := List.mem_of_getElem? (i := 929) (by decide +kernel)
theorem tM_RX8_182 : Cond.methodLink RX8 182 yX8_isRest ∈ lw_tbl := List.mem_of_getElem? (i := 930) (by decide +kernel)
theorem tI_yX8_isRest : Cond.instanceMethod yX8_isRest ∈ lw_tbl := List.mem_of_getElem? (i := 932) (by decide +kernel)
theorem tC_yX8_isRest : Cond.code yX8_isRest cX8_isRest 4 (Option.some Jvm.ClassFile.FieldType.boolean) ∈ lw_tbl := List.mem_of_getElem? (i := 933) (by decide +kernel)
theorem tM_RL_108 : Cond.methodLink RL 108 yX8_asleep ∈ lw_tbl := List.mem_of_getElem? (i := 934) (by decide +kernel)
theorem tI_yX8_asleep : Cond.instanceMethod yX8_asleep ∈ lw_tbl := List.mem_of_getElem? (i := 935) (by decide +kernel)
theorem tS_yX8_asleep : Cond.selects RX8 yX8_asleep yX8_asleep ∈ lw_tbl := List.mem_of_getElem? (i := 936) (by decide +kernel)
theorem tC_yX8_asleep : Cond.code yX8_asleep cX8_asleep 12 (Option.some Jvm.ClassFile.FieldType.int) ∈ lw_tbl := List.mem_of_getElem? (i := 937) (by decide +kernel)
theorem tK_RX8_185 : Cond.constantLong RX8 185 (10) ∈ lw_tbl := List.mem_of_getElem? (i := 938) (by decide +kernel)
theorem tM_RL_115 : Cond.methodLink RL 115 yX8_seed ∈ lw_tbl := List.mem_of_getElem? (i := 939) (by decide +kernel)
theorem tI_yX8_seed : Cond.instanceMethod yX8_seed ∈ lw_tbl := List.mem_of_getElem? (i := 940) (by decide +kernel)
theorem tS_yX8_seed : Cond.selects RX8 yX8_seed yX8_seed ∈ lw_tbl := List.mem_of_getElem? (i := 941) (by decide +kernel)
theorem tC_yX8_seed : Cond.code yX8_seed cX8_seed 5 (Option.some Jvm.ClassFile.FieldType.long) ∈ lw_tbl := List.mem_of_getElem? (i := 942) (by decide +kernel)
theorem tM_RL_119 : Cond.methodLink RL 119 yX8_days ∈ lw_tbl := List.mem_of_getElem? (i := 943) (by decide +kernel)
theorem tI_yX8_days : Cond.instanceMethod yX8_days ∈ lw_tbl := List.mem_of_getElem? (i := 944) (by decide +kernel)
theorem tS_yX8_days : Cond.selects RX8 yX8_days yX8_days ∈ lw_tbl := List.mem_of_getElem? (i := 945) (by decide +kernel)
theorem tC_yX8_days : Cond.code yX8_days cX8_days 7 (Option.some Jvm.ClassFile.FieldType.int) ∈ lw_tbl := List.mem_of_getElem? (i := 946) (by decide +kernel)
theorem tK_RX8_191 : Cond.constantLong RX8 191 (30) ∈ lw_tbl := List.mem_of_getElem? (i := 947) (by decide +kernel)
theorem tK_RX8_193 : Cond.constantLong RX8 193 (6364136223846793005) ∈ lw_tbl := List.mem_of_getElem? (i := 948) (by decide +kernel)
theorem tK_RX8_195 : Cond.constantLong RX8 195 (1442695040888963407) ∈ lw_tbl := List.mem_of_getElem? (i := 949) (by decide +kernel)
theorem tK_RX8_197 : Cond.constantLong RX8 197 (64) ∈ lw_tbl := List.mem_of_getElem? (i := 950) (by decide +kernel)
theorem tM_RX8_199 : Cond.methodLink RX8 199 yX8_isFirst ∈ lw_tbl := List.mem_of_getElem? (i := 951) (by decide +kernel)
theorem tI_yX8_isFirst : Cond.instanceMethod yX8_isFirst ∈ lw_tbl := List.mem_of_getElem? (i := 953) (by decide +kernel)
theorem tC_yX8_isFirst : Cond.code yX8_isFirst cX8_isFirst 2 (Option.some Jvm.ClassFile.FieldType.boolean) ∈ lw_tbl := List.mem_of_getElem? (i := 954) (by decide +kernel)
theorem tM_RL_123 : Cond.methodLink RL 123 yX8_keep ∈ lw_tbl := List.mem_of_getElem? (i := 955) (by decide +kernel)
theorem tI_yX8_keep : Cond.instanceMethod yX8_keep ∈ lw_tbl := List.mem_of_getElem? (i := 956) (by decide +kernel)
theorem tS_yX8_keep : Cond.selects RX8 yX8_keep yX8_keep ∈ lw_tbl := List.mem_of_getElem? (i := 957) (by decide +kernel)
theorem tC_yX8_keep : Cond.code yX8_keep cX8_keep 3 (Option.some Jvm.ClassFile.FieldType.int) ∈ lw_tbl := List.mem_of_getElem? (i := 958) (by decide +kernel)
theorem tM_RL_127 : Cond.methodLink RL 127 yX8_again ∈ lw_tbl := List.mem_of_getElem? (i := 959) (by decide +kernel)
theorem tI_yX8_again : Cond.instanceMethod yX8_again ∈ lw_tbl := List.mem_of_getElem? (i := 960) (by decide +kernel)
theorem tS_yX8_again : Cond.selects RX8 yX8_again yX8_again ∈ lw_tbl := List.mem_of_getElem? (i := 961) (by decide +kernel)
theorem tC_yX8_again : Cond.code yX8_again cX8_again 3 (Option.some Jvm.ClassFile.FieldType.int) ∈ lw_tbl := List.mem_of_getElem? (i := 962) (by decide +kernel)
theorem tM_RL_131 : Cond.methodLink RL 131 yX8_count ∈ lw_tbl := List.mem_of_getElem? (i := 963) (by decide +kernel)
theorem tI_yX8_count : Cond.instanceMethod yX8_count ∈ lw_tbl := List.mem_of_getElem? (i := 964) (by decide +kernel)
theorem tS_yX8_count : Cond.selects RX8 yX8_count yX8_count ∈ lw_tbl := List.mem_of_getElem? (i := 965) (by decide +kernel)
theorem tC_yX8_count : Cond.code yX8_count cX8_count 2 (Option.some Jvm.ClassFile.FieldType.int) ∈ lw_tbl := List.mem_of_getElem? (i := 966) (by decide +kernel)
theorem tM_RX8_202 : Cond.methodLink RX8 202 yX8_sumOf ∈ lw_tbl := List.mem_of_getElem? (i := 967) (by decide +kernel)
theorem tI_yX8_sumOf : Cond.instanceMethod yX8_sumOf ∈ lw_tbl := List.mem_of_getElem? (i := 969) (by decide +kernel)
theorem tC_yX8_sumOf : Cond.code yX8_sumOf cX8_sumOf 5 (Option.some Jvm.ClassFile.FieldType.int) ∈ lw_tbl := List.mem_of_getElem? (i := 970) (by decide +kernel)
theorem tK_RL_109 : Cond.constantLong RL 109 (4294967295) ∈ lw_tbl := List.mem_of_getElem? (i := 971) (by decide +kernel)
theorem inX0 : ∀ w ∈ u_ws RX0 TX0 3, w ∈ lw_tbl := mem_pl [168, 170, 172] (by decide +kernel)
theorem inX1 : ∀ w ∈ u_ws RX1 TX1 6, w ∈ lw_tbl := mem_pl [142, 144, 146, 148, 150, 152] (by decide +kernel)
theorem inX2 : ∀ w ∈ u_ws RX2 TX2 6, w ∈ lw_tbl := mem_pl [222, 224, 226, 228, 230, 232] (by decide +kernel)
theorem inX3 : ∀ w ∈ u_ws RX3 TX3 2, w ∈ lw_tbl := mem_pl [201, 203] (by decide +kernel)
theorem inX4 : ∀ w ∈ u_ws RX4 TX4 2, w ∈ lw_tbl := mem_pl [187, 189] (by decide +kernel)
theorem inX5 : ∀ w ∈ u_ws RX5 TX5 7, w ∈ lw_tbl := mem_pl [111, 113, 115, 117, 119, 121, 123] (by decide +kernel)
theorem inX6 : ∀ w ∈ u_ws RX6 TX6 2, w ∈ lw_tbl := mem_pl [69, 71] (by decide +kernel)
theorem inX7 : ∀ w ∈ u_ws RX7 TX7 7, w ∈ lw_tbl := mem_pl [242, 244, 246, 248, 250, 252, 254] (by decide +kernel)
theorem inX8 : ∀ w ∈ u_ws RX8 TX8 23, w ∈ lw_tbl := mem_pl [690, 692, 694, 696, 698, 700, 702, 704, 706, 708, 710, 712, 714, 716, 718, 720, 722, 724, 726, 728, 730, 732, 734] (by decide +kernel)
end
section
/-! the words that hold of tables alone, and the one list of them that every method here is given -/
abbrev TT : List Cond := lw_tbl.filter goodWord
theorem mTT {w : Cond} (h : w ∈ lw_tbl) (g : goodWord w = true) : w ∈ TT := List.mem_filter.mpr ⟨h, g⟩
theorem good_TT : GoodIn TT TT := fun _ h => ⟨h, good_of_word (List.mem_filter.mp h).2⟩
theorem good_cTT {y : MethodName} {cc : ByteArray} {maxL : Nat} {ret : Option FieldType} (h : Cond.code y cc maxL ret ∈ lw_tbl) : GoodIn TT (Cond.code y cc maxL ret :: TT) := by
  intro w hw
  rcases List.mem_cons.mp hw with rfl | hw
  · exact ⟨mTT h rfl, good_of_word rfl⟩
  · exact good_TT w hw
abbrev classes : List vw_C := [(RX0, TX0, 3), (RX1, TX1, 6), (RX2, TX2, 6), (RX3, TX3, 2), (RX4, TX4, 2), (RX5, TX5, 7), (RX6, TX6, 2), (RX7, TX7, 7), (RX8, TX8, 23)]
/-! the heap's fixed shape: an object (its class, its fields: none an int, some none a long, some (some r) the cell r), an array of ints (0) or booleans (1), an array of cells -/
abbrev Kd : Type := (Nat × List (Option (Option Nat))) ⊕ ((Nat × Nat) ⊕ List Nat)
abbrev kSt (b : Nat) : Kd := .inl (5, [some (some (b + 1)), some (some (b + 2)), some (some (b + 3)), some (some (b + 4)), some (some (b + 5)), none, none])
def shL : List Kd := [.inl (7, [some (some 1), some (some 3), some (some 18), some (some 104), some (some 119), some (some 122), some none]), .inl (6, [some (some 2), none]), .inr (.inl (0, 40)), .inl (1, [some (some 4), some (some 5), some (some 6), some (some 12), none, none]), .inr (.inl (0, 6)), .inr (.inl (0, 6)), kSt 6, .inr (.inl (0, 6)), .inr (.inl (0, 6)), .inr (.inl (0, 6)), .inr (.inl (0, 5)), .inr (.inl (0, 30)), kSt 12, .inr (.inl (0, 6)), .inr (.inl (0, 6)), .inr (.inl (0, 6)), .inr (.inl (0, 5)), .inr (.inl (0, 30)), .inl (0, [some (some 19), none, none]), .inr (.inr [20, 26, 32, 38, 44, 50, 56, 62, 68, 74, 80, 86, 92, 98]), kSt 20, .inr (.inl (0, 6)), .inr (.inl (0, 6)), .inr (.inl (0, 6)), .inr (.inl (0, 5)), .inr (.inl (0, 30)), kSt 26, .inr (.inl (0, 6)), .inr (.inl (0, 6)), .inr (.inl (0, 6)), .inr (.inl (0, 5)), .inr (.inl (0, 30)), kSt 32, .inr (.inl (0, 6)), .inr (.inl (0, 6)), .inr (.inl (0, 6)), .inr (.inl (0, 5)), .inr (.inl (0, 30)), kSt 38, .inr (.inl (0, 6)), .inr (.inl (0, 6)), .inr (.inl (0, 6)), .inr (.inl (0, 5)), .inr (.inl (0, 30)), kSt 44, .inr (.inl (0, 6)), .inr (.inl (0, 6)), .inr (.inl (0, 6)), .inr (.inl (0, 5)), .inr (.inl (0, 30)), kSt 50, .inr (.inl (0, 6)), .inr (.inl (0, 6)), .inr (.inl (0, 6)), .inr (.inl (0, 5)), .inr (.inl (0, 30)), kSt 56, .inr (.inl (0, 6)), .inr (.inl (0, 6)), .inr (.inl (0, 6)), .inr (.inl (0, 5)), .inr (.inl (0, 30)), kSt 62, .inr (.inl (0, 6)), .inr (.inl (0, 6)), .inr (.inl (0, 6)), .inr (.inl (0, 5)), .inr (.inl (0, 30)), kSt 68, .inr (.inl (0, 6)), .inr (.inl (0, 6)), .inr (.inl (0, 6)), .inr (.inl (0, 5)), .inr (.inl (0, 30)), kSt 74, .inr (.inl (0, 6)), .inr (.inl (0, 6)), .inr (.inl (0, 6)), .inr (.inl (0, 5)), .inr (.inl (0, 30)), kSt 80, .inr (.inl (0, 6)), .inr (.inl (0, 6)), .inr (.inl (0, 6)), .inr (.inl (0, 5)), .inr (.inl (0, 30)), kSt 86, .inr (.inl (0, 6)), .inr (.inl (0, 6)), .inr (.inl (0, 6)), .inr (.inl (0, 5)), .inr (.inl (0, 30)), kSt 92, .inr (.inl (0, 6)), .inr (.inl (0, 6)), .inr (.inl (0, 6)), .inr (.inl (0, 5)), .inr (.inl (0, 30)), kSt 98, .inr (.inl (0, 6)), .inr (.inl (0, 6)), .inr (.inl (0, 6)), .inr (.inl (0, 5)), .inr (.inl (0, 30)), .inl (4, [some (some 105), some (some 118)]), .inr (.inr [106, 112]), kSt 106, .inr (.inl (0, 6)), .inr (.inl (0, 6)), .inr (.inl (0, 6)), .inr (.inl (0, 5)), .inr (.inl (0, 30)), kSt 112, .inr (.inl (0, 6)), .inr (.inl (0, 6)), .inr (.inl (0, 6)), .inr (.inl (0, 5)), .inr (.inl (0, 30)), .inr (.inl (1, 2)), .inl (3, [some (some 120), some (some 121)]), .inr (.inl (0, 6)), .inr (.inl (0, 6)), .inl (2, [some (some 123), some (some 124), none, none, none, none]), .inr (.inl (0, 16)), .inr (.inl (0, 16)), .inl (8, [none, none, some (some 126), some (some 127), some (some 128), some (some 129), some (some 130), none, none, some (some 131), none, none, none, some (some 132), none, none, some (some 133), some (some 134), some (some 135), some (some 136), some none, some (some 137), some (some 138)]), .inr (.inl (0, 6)), .inr (.inl (0, 6)), .inr (.inl (0, 108)), .inr (.inl (0, 5)), .inr (.inl (0, 18)), .inr (.inl (0, 40)), .inr (.inl (0, 6)), .inr (.inl (0, 756)), .inr (.inl (0, 64)), .inr (.inl (0, 16)), .inr (.inl (0, 16)), .inr (.inl (1, 2)), .inr (.inl (0, 108))]
def sh (id : Nat) : Kd := shL.getD id (.inr (.inr []))
abbrev NC : Nat := 139
theorem shL_len : shL.length = NC := by decide +kernel
theorem sh_lt {id : Nat} (h : sh id ≠ .inr (.inr [])) : id < NC := by
  rcases Nat.lt_or_ge id NC with q | q
  · exact q
  · exact absurd (by unfold sh; rw [List.getD_eq_getElem?_getD, List.getElem?_eq_none (by rw [shL_len]; exact q)]; rfl) h
/-- a State's cells stand at the cell b and behind it -/
def StB (b : Nat) : Prop := sh b = kSt b ∧ sh (b + 1) = .inr (.inl (0, 6)) ∧ sh (b + 2) = .inr (.inl (0, 6)) ∧ sh (b + 3) = .inr (.inl (0, 6)) ∧ sh (b + 4) = .inr (.inl (0, 5)) ∧ sh (b + 5) = .inr (.inl (0, 30))
theorem sh_0 : sh 0 = .inl (7, [some (some 1), some (some 3), some (some 18), some (some 104), some (some 119), some (some 122), some none]) := rfl
theorem sh_1 : sh 1 = .inl (6, [some (some 2), none]) := rfl
theorem sh_2 : sh 2 = .inr (.inl (0, 40)) := rfl
theorem sh_3 : sh 3 = .inl (1, [some (some 4), some (some 5), some (some 6), some (some 12), none, none]) := rfl
theorem sh_4 : sh 4 = .inr (.inl (0, 6)) := rfl
theorem sh_5 : sh 5 = .inr (.inl (0, 6)) := rfl
theorem sh_18 : sh 18 = .inl (0, [some (some 19), none, none]) := rfl
theorem sh_19 : sh 19 = .inr (.inr [20, 26, 32, 38, 44, 50, 56, 62, 68, 74, 80, 86, 92, 98]) := rfl
theorem sh_104 : sh 104 = .inl (4, [some (some 105), some (some 118)]) := rfl
theorem sh_105 : sh 105 = .inr (.inr [106, 112]) := rfl
theorem sh_118 : sh 118 = .inr (.inl (1, 2)) := rfl
theorem sh_119 : sh 119 = .inl (3, [some (some 120), some (some 121)]) := rfl
theorem sh_120 : sh 120 = .inr (.inl (0, 6)) := rfl
theorem sh_121 : sh 121 = .inr (.inl (0, 6)) := rfl
theorem sh_122 : sh 122 = .inl (2, [some (some 123), some (some 124), none, none, none, none]) := rfl
theorem sh_123 : sh 123 = .inr (.inl (0, 16)) := rfl
theorem sh_124 : sh 124 = .inr (.inl (0, 16)) := rfl
theorem sh_125 : sh 125 = .inl (8, [none, none, some (some 126), some (some 127), some (some 128), some (some 129), some (some 130), none, none, some (some 131), none, none, none, some (some 132), none, none, some (some 133), some (some 134), some (some 135), some (some 136), some none, some (some 137), some (some 138)]) := rfl
theorem sh_126 : sh 126 = .inr (.inl (0, 6)) := rfl
theorem sh_127 : sh 127 = .inr (.inl (0, 6)) := rfl
theorem sh_128 : sh 128 = .inr (.inl (0, 108)) := rfl
theorem sh_129 : sh 129 = .inr (.inl (0, 5)) := rfl
theorem sh_130 : sh 130 = .inr (.inl (0, 18)) := rfl
theorem sh_131 : sh 131 = .inr (.inl (0, 40)) := rfl
theorem sh_132 : sh 132 = .inr (.inl (0, 6)) := rfl
theorem sh_133 : sh 133 = .inr (.inl (0, 756)) := rfl
theorem sh_134 : sh 134 = .inr (.inl (0, 64)) := rfl
theorem sh_135 : sh 135 = .inr (.inl (0, 16)) := rfl
theorem sh_136 : sh 136 = .inr (.inl (0, 16)) := rfl
theorem sh_137 : sh 137 = .inr (.inl (1, 2)) := rfl
theorem sh_138 : sh 138 = .inr (.inl (0, 108)) := rfl
theorem stB_6 : StB 6 := ⟨rfl, rfl, rfl, rfl, rfl, rfl⟩
theorem stB_12 : StB 12 := ⟨rfl, rfl, rfl, rfl, rfl, rfl⟩
theorem stB_act {k : Nat} (h : k < 14) : StB (20 + 6 * k) := by
  have H : ∀ k, k < 14 → StB (20 + 6 * k) := by
    intro k hk
    match k, hk with
    | 0, _ => exact ⟨rfl, rfl, rfl, rfl, rfl, rfl⟩
    | 1, _ => exact ⟨rfl, rfl, rfl, rfl, rfl, rfl⟩
    | 2, _ => exact ⟨rfl, rfl, rfl, rfl, rfl, rfl⟩
    | 3, _ => exact ⟨rfl, rfl, rfl, rfl, rfl, rfl⟩
    | 4, _ => exact ⟨rfl, rfl, rfl, rfl, rfl, rfl⟩
    | 5, _ => exact ⟨rfl, rfl, rfl, rfl, rfl, rfl⟩
    | 6, _ => exact ⟨rfl, rfl, rfl, rfl, rfl, rfl⟩
    | 7, _ => exact ⟨rfl, rfl, rfl, rfl, rfl, rfl⟩
    | 8, _ => exact ⟨rfl, rfl, rfl, rfl, rfl, rfl⟩
    | 9, _ => exact ⟨rfl, rfl, rfl, rfl, rfl, rfl⟩
    | 10, _ => exact ⟨rfl, rfl, rfl, rfl, rfl, rfl⟩
    | 11, _ => exact ⟨rfl, rfl, rfl, rfl, rfl, rfl⟩
    | 12, _ => exact ⟨rfl, rfl, rfl, rfl, rfl, rfl⟩
    | 13, _ => exact ⟨rfl, rfl, rfl, rfl, rfl, rfl⟩
  exact H k h
theorem stB_slot {k : Nat} (h : k < 2) : StB (106 + 6 * k) := by
  have H : ∀ k, k < 2 → StB (106 + 6 * k) := by
    intro k hk
    match k, hk with
    | 0, _ => exact ⟨rfl, rfl, rfl, rfl, rfl, rfl⟩
    | 1, _ => exact ⟨rfl, rfl, rfl, rfl, rfl, rfl⟩
  exact H k h
theorem sh_small {id t n : Nat} (h : sh id = .inr (.inl (t, n))) : n < 2 ^ 31 := by
  have H : ∀ k, k < NC → (match sh k with | .inr (.inl q) => decide (q.2 < 1000) | _ => true) = true := by decide +kernel
  have h1 := H id (sh_lt (by rw [h]; intro z; cases z))
  rw [h] at h1
  have h2 : n < 1000 := of_decide_eq_true h1
  exact Nat.lt_trans h2 (by decide)
/-! the ints and the longs in it -/
abbrev Mem : Type := (Nat → Nat → Int32) × (Nat → Int64)
def sti (μ : Mem) (i k : Nat) (x : Int32) : Mem := (fun a b => if a = i ∧ b = k then x else μ.1 a b, μ.2)
def stl (μ : Mem) (i : Nat) (x : Int64) : Mem := (μ.1, fun a => if a = i then x else μ.2 a)
def sta (μ : Mem) (i : Nat) (f : Nat → Int32) : Mem := (fun a b => if a = i then f b else μ.1 a b, μ.2)
theorem sti_1 (μ : Mem) (i k : Nat) (x : Int32) (a b : Nat) : (sti μ i k x).1 a b = if a = i ∧ b = k then x else μ.1 a b := rfl
theorem sta_1 (μ : Mem) (i : Nat) (f : Nat → Int32) (a b : Nat) : (sta μ i f).1 a b = if a = i then f b else μ.1 a b := rfl
theorem sti_2 (μ : Mem) (i k : Nat) (x : Int32) : (sti μ i k x).2 = μ.2 := rfl
theorem sta_2 (μ : Mem) (i : Nat) (f : Nat → Int32) : (sta μ i f).2 = μ.2 := rfl
theorem stl_1 (μ : Mem) (i : Nat) (x : Int64) : (stl μ i x).1 = μ.1 := rfl
theorem stl_2 (μ : Mem) (i : Nat) (x : Int64) (a : Nat) : (stl μ i x).2 a = if a = i then x else μ.2 a := rfl
theorem sti_1_ne (μ : Mem) {i k : Nat} (x : Int32) {a : Nat} (b : Nat) (h : a ≠ i) : (sti μ i k x).1 a b = μ.1 a b := by rw [sti_1, if_neg (fun q => h q.1)]
theorem sti_1_eq (μ : Mem) (i k : Nat) (x : Int32) : (sti μ i k x).1 i k = x := by rw [sti_1, if_pos ⟨rfl, rfl⟩]
/-! the frame of a proof: classes' numbers and slots, array classes, addresses, arrays that are only read (the first: FACTORIALS) -/
abbrev Gm : Type := va_G × (ClassId × ClassId × ClassId) × (Nat → Nat) × List (Nat × Nat × (Nat → Int32))
def fac (k : Nat) : Int32 := match k with
  | 0 => 1
  | 1 => 1
  | 2 => 2
  | 3 => 6
  | 4 => 24
  | 5 => 120
  | 6 => 720
  | _ => 0
abbrev tys (G : Gm) : List (ClassId × FieldType) := [(G.2.1.1, .int), (G.2.1.2.1, .boolean), (G.2.1.2.2, .object "EelLocks$State")]
abbrev tyc (G : Gm) (t : Nat) : ClassId := match t with
  | 0 => G.2.1.1
  | _ => G.2.1.2.1
def fv (ad : Nat → Nat) (μ : Mem) (id k : Nat) (f : Option (Option Nat)) : Value := match f with
  | none => .int (μ.1 id k)
  | some none => .long (μ.2 id)
  | some (some r) => .ref (ad r)
def ce (G : Gm) (μ : Mem) (id : Nat) (q : Kd) : va_E := match q with
  | .inl o => .inr (o.1, o.2.mapIdx (fun k f => fv G.2.2.1 μ id k f))
  | .inr (.inl a) => .inl (tyc G a.1, a.2, .inl (μ.1 id))
  | .inr (.inr ids) => .inl (G.2.1.2.2, ids.length, .inr (.inr (.inr (.inr fun k => (ids[k]?).map G.2.2.1))))
def wl (G : Gm) (μ : Mem) : va_W := (List.range NC).map fun id => (G.2.2.1 id, ce G μ id (sh id))
theorem wl_get (G : Gm) (μ : Mem) {id : Nat} (h : id < NC) : (wl G μ)[id]? = some (G.2.2.1 id, ce G μ id (sh id)) := by
  unfold wl
  rw [List.getElem?_map, List.getElem?_range h]
  rfl
theorem wl_len (G : Gm) (μ : Mem) : (wl G μ).length = NC := by
  unfold wl
  rw [List.length_map, List.length_range]
theorem wl_set (G : Gm) (μ μ' : Mem) {id : Nat} (h : id < NC) (e : va_E) (he : e = ce G μ' id (sh id)) (ho : ∀ j, j ≠ id → ce G μ' j (sh j) = ce G μ j (sh j)) : (wl G μ).set id (G.2.2.1 id, e) = wl G μ' := by
  apply List.ext_getElem?
  intro j
  rcases Nat.lt_or_ge j NC with q | q
  · rw [wl_get G μ' q]
    by_cases hj : id = j
    · subst hj
      rw [List.getElem?_set_self (by rw [wl_len]; exact h), he]
    · rw [List.getElem?_set_ne hj, wl_get G μ q, ho j (fun z => hj z.symm)]
  · rw [List.getElem?_eq_none (by rw [List.length_set, wl_len]; exact q), List.getElem?_eq_none (by rw [wl_len]; exact q)]
theorem ce_congr (G : Gm) {μ μ' : Mem} {j : Nat} (h1 : ∀ k, μ'.1 j k = μ.1 j k) (h2 : μ'.2 j = μ.2 j) (q : Kd) : ce G μ' j q = ce G μ j q := by
  rcases q with o | a | ids
  · have h : (fun k f => fv G.2.2.1 μ' j k f) = fun k f => fv G.2.2.1 μ j k f := by
      funext k f
      rcases f with _ | _ | r
      · exact congrArg Value.int (h1 k)
      · exact congrArg Value.long h2
      · rfl
    exact congrArg (fun g => (Sum.inr (o.1, o.2.mapIdx g) : va_E)) h
  · exact congrArg (fun g => (Sum.inl (tyc G a.1, a.2, .inl g) : va_E)) (funext h1)
  · rfl
theorem wl_seti (G : Gm) (μ : Mem) {id t n : Nat} (hs : sh id = .inr (.inl (t, n))) (k : Nat) (x : Int32) : (wl G μ).set id (G.2.2.1 id, .inl (tyc G t, n, .inl (upd (μ.1 id) k x))) = wl G (sti μ id k x) := by
  refine wl_set G μ _ (sh_lt (by rw [hs]; intro z; cases z)) _ ?_ (fun j hj => ce_congr G (fun b => sti_1_ne μ x b hj) rfl _)
  rw [hs]
  refine congrArg (fun g => (Sum.inl (tyc G t, n, .inl g) : va_E)) (funext fun b => ?_)
  show (if b = k then x else μ.1 id b) = if id = id ∧ b = k then x else μ.1 id b
  by_cases hb : b = k
  · rw [if_pos hb, if_pos ⟨rfl, hb⟩]
  · rw [if_neg hb, if_neg (fun q => hb q.2)]
theorem wl_seta (G : Gm) (μ : Mem) {id t n : Nat} (hs : sh id = .inr (.inl (t, n))) (f : Nat → Int32) : (wl G μ).set id (G.2.2.1 id, .inl (tyc G t, n, .inl f)) = wl G (sta μ id f) := by
  refine wl_set G μ _ (sh_lt (by rw [hs]; intro z; cases z)) _ ?_ (fun j hj => ce_congr G (fun b => by rw [sta_1, if_neg hj]) (by rw [sta_2]) _)
  rw [hs]
  refine congrArg (fun g => (Sum.inl (tyc G t, n, .inl g) : va_E)) (funext fun b => ?_)
  show f b = if id = id then f b else μ.1 id b
  rw [if_pos rfl]
theorem wl_setf (G : Gm) (μ : Mem) {id ci : Nat} {fs : List (Option (Option Nat))} (hs : sh id = .inl (ci, fs)) {k : Nat} (hk : fs[k]? = some none) (x : Int32) : (wl G μ).set id (G.2.2.1 id, .inr (ci, (fs.mapIdx (fun k f => fv G.2.2.1 μ id k f)).set k (.int x))) = wl G (sti μ id k x) := by
  refine wl_set G μ _ (sh_lt (by rw [hs]; intro z; cases z)) _ ?_ (fun j hj => ce_congr G (fun b => sti_1_ne μ x b hj) rfl _)
  rw [hs]
  refine congrArg (fun g => (Sum.inr (ci, g) : va_E)) (List.ext_getElem? fun j => ?_)
  have hlt : k < fs.length := (List.getElem?_eq_some_iff.mp hk).1
  rw [List.getElem?_mapIdx]
  by_cases hj : k = j
  · subst hj
    rw [List.getElem?_set_self (by rw [List.length_mapIdx]; exact hlt), hk]
    show some (Value.int x) = some (Value.int ((sti μ id k x).1 id k))
    rw [sti_1_eq]
  · rw [List.getElem?_set_ne hj, List.getElem?_mapIdx]
    rcases fs[j]? with _ | f
    · rfl
    · refine congrArg some ?_
      rcases f with _ | _ | r
      · show Value.int (μ.1 id j) = Value.int ((sti μ id k x).1 id j)
        rw [sti_1, if_neg (fun q => hj q.2.symm)]
      · rfl
      · rfl
theorem wl_setl (G : Gm) (μ : Mem) {id ci : Nat} {fs : List (Option (Option Nat))} (hs : sh id = .inl (ci, fs)) {k : Nat} (hk : fs[k]? = some (some none)) (h1 : ∀ j, fs[j]? = some (some none) → j = k) (x : Int64) : (wl G μ).set id (G.2.2.1 id, .inr (ci, (fs.mapIdx (fun k f => fv G.2.2.1 μ id k f)).set k (.long x))) = wl G (stl μ id x) := by
  refine wl_set G μ _ (sh_lt (by rw [hs]; intro z; cases z)) _ ?_ (fun j hj => ce_congr G (fun b => by rw [stl_1]) (by rw [stl_2, if_neg hj]) _)
  rw [hs]
  refine congrArg (fun g => (Sum.inr (ci, g) : va_E)) (List.ext_getElem? fun j => ?_)
  have hlt : k < fs.length := (List.getElem?_eq_some_iff.mp hk).1
  rw [List.getElem?_mapIdx]
  by_cases hj : k = j
  · subst hj
    rw [List.getElem?_set_self (by rw [List.length_mapIdx]; exact hlt), hk]
    show some (Value.long x) = some (Value.long ((stl μ id x).2 id))
    rw [stl_2, if_pos rfl]
  · rw [List.getElem?_set_ne hj, List.getElem?_mapIdx]
    rcases hf : fs[j]? with _ | f
    · rfl
    · refine congrArg some ?_
      rcases f with _ | _ | r
      · rfl
      · exact absurd (h1 j hf).symm hj
      · rfl
/-! what holds of a state; the judgement -/
def AA (G : Gm) (q : Nat) : Prop := ∃ id, id < NC ∧ q = G.2.2.1 id
abbrev nM : Cond := Cond.methodLinkNest RX2 91 yX7_power "EelLocks"
abbrev nF : Cond := Cond.fieldLinkNest RX3 48 "EelLocks" "FACTORIALS" "[I" "EelLocks"
def Gx (G : Gm) (s : State) (H : Heap) : Prop := (∀ q ∈ G.2.2.2, va_X q.1 q.2.1 q.2.2 s H ∧ q.1 < H.size ∧ ¬ AA G q.1) ∧ (∃ fa : Nat, (fa, 7, fac) ∈ G.2.2.2 ∧ va_Z "EelLocks" "FACTORIALS" "[I" (.ref fa) (AA G) s H) ∧ va_Nw nM s ∧ va_Nw nF s
def Wd (G : Gm) (μ : Mem) (U : State) : Prop := va_P G.1 classes (wl G μ) U.heap ∧ va_K G.1 classes (tys G) U ∧ va_D (AA G) (wl G μ) ∧ Gx G U U.heap
def Hp (G : Gm) (s : State) (H : Heap) (locs : List Loc) (μ : Mem) : Prop := va_P G.1 classes (wl G μ) H ∧ va_D (AA G) (wl G μ) ∧ va_S (AA G) s.heap H locs
def Cx (G : Gm) (own : String) (cc : ByteArray) (nL dep : Nat) (p : Program) (R : Room) (s : State) (m : MethodId) (args : Array Value) (c : Code) (cells slots : Nat) : Prop :=
  p.tables.exec = Jvm.exec ∧ c.code = cc ∧ c.maxLocals = nL ∧ s.vm.findClass own = some m.cls ∧ (∀ w ∈ TT, w.before args s = true) ∧ va_K G.1 classes (tys G) s ∧ Gx G s s.heap ∧ dep ≤ R.frames ∧ 34 * dep ≤ R.locals ∧ cells ≤ R.cells ∧ slots ≤ R.slots
def lm (lg : Bool) (ls : Array Slot) (nL : Nat) (lo : List (Option Value)) : Prop := ls.size = nL ∧ lv_wf ls ∧ ∀ (i : Nat) (v : Value), lo[i]? = some (some v) → ls[i]? = some (.val v) ∧ (lg = false → v.category = 1)
/-- a return at pc with r, of a method whose descriptor says ret -/
def rok (cc : ByteArray) (ret : Option FieldType) (pc : Nat) (r : Option Value) : Prop := (∃ x, r = some (.int x) ∧ decode cc pc = .ok (.ireturn, 1) ∧ ∃ ty, ret = some ty ∧ narrow ty (.int x) = .int x) ∨ (∃ x, r = some (.long x) ∧ decode cc pc = .ok (.lreturn, 1) ∧ ret = some .long) ∨ (∃ a n, r = some (.ref a) ∧ decode cc pc = .ok (.areturn, 1) ∧ ret = some (.object n)) ∨ (r = none ∧ decode cc pc = .ok (.return_, 1) ∧ ret = none)
/-- V: from pc, locals lo, stack st, numbers μ, the method comes to a return with r and μ' of which Q r μ' holds -/
def V (G : Gm) (l : Launch) (own : String) (cc : ByteArray) (nL dep : Nat) (lg : Bool) (ret : Option FieldType) (Q : Option Value → Mem → Prop) (pc : Nat) (lo : List (Option Value)) (st : List Value) (μ : Mem) : Prop :=
  ∀ (p : Program) (e : Env) (R : Room) (s : State) (m : MethodId) (args : Array Value) (below : List Frame) (meth : Method) (c : Code) (H : Heap) (locs : List Loc) (cells slots : Nat) (Qf : State → Prop) (ls : Array Slot), Cx G own cc nL dep p R s m args c cells slots → Hp G s H locs μ → lm lg ls nL lo →
    (∀ (r : Option Value) (μ' : Mem) (H' : Heap) (locs' : List Loc) (ls' : Array Slot) (pc' : Nat), Q r μ' → Hp G s H' locs' μ' → rok cc ret pc' r → W p l e R s m args below meth c H' locs' cells slots Qf (F0 m pc' ls' r.toList)) →
    W p l e R s m args below meth c H locs cells slots Qf (F0 m pc ls st)
/-- a method's contract over the whole shape -/
def Ct (G : Gm) (l : Launch) (dep : Nat) (y : MethodName) (cc : ByteArray) (maxL : Nat) (ret : Option FieldType) (As : List Value) (μ : Mem) (Q : Option Value → Mem → Prop) : Prop :=
  Met l y (.code y cc maxL ret :: TT) { frames := dep, cells := 0, slots := 0, locals := 34 * dep } (va_Pc As (Wd G μ)) (fun _ st oc t => (∃ (r : Option Value) (μ' : Mem), oc = .returned r ∧ Q r μ' ∧ va_P G.1 classes (wl G μ') t.heap ∧ va_D (AA G) (wl G μ')) ∧ va_F (AA G) st t) 0 0 (AA G)
section VR
variable {G : Gm} {l : Launch} {own : String} {cc : ByteArray} {nL dep : Nat} {lg : Bool} {ret : Option FieldType} {Q : Option Value → Mem → Prop} {pc n : Nat} {lo : List (Option Value)} {st : List Value} {μ : Mem}
theorem R_iadd {x y : Int32} (hdg : decode cc pc = .ok (.iadd, 1)) (hn : pc + 1 = n) (k : V G l own cc nL dep lg ret Q n lo (.int (x + y) :: st) μ) : V G l own cc nL dep lg ret Q pc lo (.int y :: .int x :: st) μ := by
  subst hn
  intro p e R s m args below meth c H locs cells slots Qf ls hC hH hL hF
  exact lv_iadd hC.1 hC.2.1 hdg (k p e R s m args below meth c H locs cells slots Qf ls hC hH hL hF)
theorem R_isub {x y : Int32} (hdg : decode cc pc = .ok (.isub, 1)) (hn : pc + 1 = n) (k : V G l own cc nL dep lg ret Q n lo (.int (x - y) :: st) μ) : V G l own cc nL dep lg ret Q pc lo (.int y :: .int x :: st) μ := by
  subst hn
  intro p e R s m args below meth c H locs cells slots Qf ls hC hH hL hF
  exact lv_isub hC.1 hC.2.1 hdg (k p e R s m args below meth c H locs cells slots Qf ls hC hH hL hF)
theorem R_imul {x y : Int32} (hdg : decode cc pc = .ok (.imul, 1)) (hn : pc + 1 = n) (k : V G l own cc nL dep lg ret Q n lo (.int (x * y) :: st) μ) : V G l own cc nL dep lg ret Q pc lo (.int y :: .int x :: st) μ := by
  subst hn
  intro p e R s m args below meth c H locs cells slots Qf ls hC hH hL hF
  exact lv_imul hC.1 hC.2.1 hdg (k p e R s m args below meth c H locs cells slots Qf ls hC hH hL hF)
theorem R_iand {x y : Int32} (hdg : decode cc pc = .ok (.iand, 1)) (hn : pc + 1 = n) (k : V G l own cc nL dep lg ret Q n lo (.int (x &&& y) :: st) μ) : V G l own cc nL dep lg ret Q pc lo (.int y :: .int x :: st) μ := by
  subst hn
  intro p e R s m args below meth c H locs cells slots Qf ls hC hH hL hF
  exact lv_iand hC.1 hC.2.1 hdg (k p e R s m args below meth c H locs cells slots Qf ls hC hH hL hF)
theorem R_ior {x y : Int32} (hdg : decode cc pc = .ok (.ior, 1)) (hn : pc + 1 = n) (k : V G l own cc nL dep lg ret Q n lo (.int (x ||| y) :: st) μ) : V G l own cc nL dep lg ret Q pc lo (.int y :: .int x :: st) μ := by
  subst hn
  intro p e R s m args below meth c H locs cells slots Qf ls hC hH hL hF
  exact lv_ior hC.1 hC.2.1 hdg (k p e R s m args below meth c H locs cells slots Qf ls hC hH hL hF)
theorem R_ixor {x y : Int32} (hdg : decode cc pc = .ok (.ixor, 1)) (hn : pc + 1 = n) (k : V G l own cc nL dep lg ret Q n lo (.int (x ^^^ y) :: st) μ) : V G l own cc nL dep lg ret Q pc lo (.int y :: .int x :: st) μ := by
  subst hn
  intro p e R s m args below meth c H locs cells slots Qf ls hC hH hL hF
  exact lv_ixor hC.1 hC.2.1 hdg (k p e R s m args below meth c H locs cells slots Qf ls hC hH hL hF)
theorem R_ishl {x y : Int32} (hdg : decode cc pc = .ok (.ishl, 1)) (hn : pc + 1 = n) (k : V G l own cc nL dep lg ret Q n lo (.int (x <<< (y &&& 31)) :: st) μ) : V G l own cc nL dep lg ret Q pc lo (.int y :: .int x :: st) μ := by
  subst hn
  intro p e R s m args below meth c H locs cells slots Qf ls hC hH hL hF
  exact lv_ishl hC.1 hC.2.1 hdg (k p e R s m args below meth c H locs cells slots Qf ls hC hH hL hF)
theorem R_ishr {x y : Int32} (hdg : decode cc pc = .ok (.ishr, 1)) (hn : pc + 1 = n) (k : V G l own cc nL dep lg ret Q n lo (.int (x >>> (y &&& 31)) :: st) μ) : V G l own cc nL dep lg ret Q pc lo (.int y :: .int x :: st) μ := by
  subst hn
  intro p e R s m args below meth c H locs cells slots Qf ls hC hH hL hF
  exact lv_ishr hC.1 hC.2.1 hdg (k p e R s m args below meth c H locs cells slots Qf ls hC hH hL hF)
theorem R_ladd {x y : Int64} (hdg : decode cc pc = .ok (.ladd, 1)) (hn : pc + 1 = n) (k : V G l own cc nL dep lg ret Q n lo (.long (x + y) :: st) μ) : V G l own cc nL dep lg ret Q pc lo (.long y :: .long x :: st) μ := by
  subst hn
  intro p e R s m args below meth c H locs cells slots Qf ls hC hH hL hF
  exact lv_ladd hC.1 hC.2.1 hdg (k p e R s m args below meth c H locs cells slots Qf ls hC hH hL hF)
theorem R_lmul {x y : Int64} (hdg : decode cc pc = .ok (.lmul, 1)) (hn : pc + 1 = n) (k : V G l own cc nL dep lg ret Q n lo (.long (x * y) :: st) μ) : V G l own cc nL dep lg ret Q pc lo (.long y :: .long x :: st) μ := by
  subst hn
  intro p e R s m args below meth c H locs cells slots Qf ls hC hH hL hF
  exact lv_lmul hC.1 hC.2.1 hdg (k p e R s m args below meth c H locs cells slots Qf ls hC hH hL hF)
theorem R_land {x y : Int64} (hdg : decode cc pc = .ok (.land, 1)) (hn : pc + 1 = n) (k : V G l own cc nL dep lg ret Q n lo (.long (x &&& y) :: st) μ) : V G l own cc nL dep lg ret Q pc lo (.long y :: .long x :: st) μ := by
  subst hn
  intro p e R s m args below meth c H locs cells slots Qf ls hC hH hL hF
  exact lv_land hC.1 hC.2.1 hdg (k p e R s m args below meth c H locs cells slots Qf ls hC hH hL hF)
theorem R_lor {x y : Int64} (hdg : decode cc pc = .ok (.lor, 1)) (hn : pc + 1 = n) (k : V G l own cc nL dep lg ret Q n lo (.long (x ||| y) :: st) μ) : V G l own cc nL dep lg ret Q pc lo (.long y :: .long x :: st) μ := by
  subst hn
  intro p e R s m args below meth c H locs cells slots Qf ls hC hH hL hF
  exact lv_lor hC.1 hC.2.1 hdg (k p e R s m args below meth c H locs cells slots Qf ls hC hH hL hF)
theorem R_ineg {x : Int32} (hdg : decode cc pc = .ok (.ineg, 1)) (hn : pc + 1 = n) (k : V G l own cc nL dep lg ret Q n lo (.int (-x) :: st) μ) : V G l own cc nL dep lg ret Q pc lo (.int x :: st) μ := by
  subst hn
  intro p e R s m args below meth c H locs cells slots Qf ls hC hH hL hF
  exact lv_ineg hC.1 hC.2.1 hdg (k p e R s m args below meth c H locs cells slots Qf ls hC hH hL hF)
theorem R_i2l {x : Int32} (hdg : decode cc pc = .ok (.i2l, 1)) (hn : pc + 1 = n) (k : V G l own cc nL dep lg ret Q n lo (.long x.toInt64 :: st) μ) : V G l own cc nL dep lg ret Q pc lo (.int x :: st) μ := by
  subst hn
  intro p e R s m args below meth c H locs cells slots Qf ls hC hH hL hF
  exact lv_i2l hC.1 hC.2.1 hdg rfl (k p e R s m args below meth c H locs cells slots Qf ls hC hH hL hF)
theorem R_l2i {x : Int64} (hdg : decode cc pc = .ok (.l2i, 1)) (hn : pc + 1 = n) (k : V G l own cc nL dep lg ret Q n lo (.int x.toInt32 :: st) μ) : V G l own cc nL dep lg ret Q pc lo (.long x :: st) μ := by
  subst hn
  intro p e R s m args below meth c H locs cells slots Qf ls hC hH hL hF
  exact lv_l2i hC.1 hC.2.1 hdg rfl (k p e R s m args below meth c H locs cells slots Qf ls hC hH hL hF)
theorem R_idiv {x y : Int32} (hdg : decode cc pc = .ok (.idiv, 1)) (hne : ¬ y = 0) (hn : pc + 1 = n) (k : V G l own cc nL dep lg ret Q n lo (.int (x / y) :: st) μ) : V G l own cc nL dep lg ret Q pc lo (.int y :: .int x :: st) μ := by
  subst hn
  intro p e R s m args below meth c H locs cells slots Qf ls hC hH hL hF
  exact lv_idiv hC.1 hC.2.1 hdg hne (k p e R s m args below meth c H locs cells slots Qf ls hC hH hL hF)
theorem R_irem {x y : Int32} (hdg : decode cc pc = .ok (.irem, 1)) (hne : ¬ y = 0) (hn : pc + 1 = n) (k : V G l own cc nL dep lg ret Q n lo (.int (x - x / y * y) :: st) μ) : V G l own cc nL dep lg ret Q pc lo (.int y :: .int x :: st) μ := by
  subst hn
  intro p e R s m args below meth c H locs cells slots Qf ls hC hH hL hF
  exact lv_irem hC.1 hC.2.1 hdg hne (k p e R s m args below meth c H locs cells slots Qf ls hC hH hL hF)
theorem R_lrem {x y : Int64} (hdg : decode cc pc = .ok (.lrem, 1)) (hne : ¬ y = 0) (hn : pc + 1 = n) (k : V G l own cc nL dep lg ret Q n lo (.long (x - x / y * y) :: st) μ) : V G l own cc nL dep lg ret Q pc lo (.long y :: .long x :: st) μ := by
  subst hn
  intro p e R s m args below meth c H locs cells slots Qf ls hC hH hL hF
  exact lv_lrem hC.1 hC.2.1 hdg hne (k p e R s m args below meth c H locs cells slots Qf ls hC hH hL hF)
theorem R_iushr {x y : Int32} (hdg : decode cc pc = .ok (.iushr, 1)) (hn : pc + 1 = n) (k : V G l own cc nL dep lg ret Q n lo (.int (x.toUInt32 >>> (y.toUInt32 &&& Int32.toUInt32 31)).toInt32 :: st) μ) : V G l own cc nL dep lg ret Q pc lo (.int y :: .int x :: st) μ := by
  subst hn
  intro p e R s m args below meth c H locs cells slots Qf ls hC hH hL hF
  exact lv_iushr hC.1 hC.2.1 hdg rfl (k p e R s m args below meth c H locs cells slots Qf ls hC hH hL hF)
theorem R_lushr {x : Int64} {y : Int32} (hdg : decode cc pc = .ok (.lushr, 1)) (hn : pc + 1 = n) (k : V G l own cc nL dep lg ret Q n lo (.long (x.toUInt64 >>> (y.toInt64.toUInt64 &&& Int64.toUInt64 63)).toInt64 :: st) μ) : V G l own cc nL dep lg ret Q pc lo (.int y :: .long x :: st) μ := by
  subst hn
  intro p e R s m args below meth c H locs cells slots Qf ls hC hH hL hF
  exact lv_lushr hC.1 hC.2.1 hdg rfl (k p e R s m args below meth c H locs cells slots Qf ls hC hH hL hF)
theorem R_lcmp {x y : Int64} (hdg : decode cc pc = .ok (.lcmp, 1)) (hn : pc + 1 = n) (k : V G l own cc nL dep lg ret Q n lo (.int (lg_cmp x y) :: st) μ) : V G l own cc nL dep lg ret Q pc lo (.long y :: .long x :: st) μ := by
  subst hn
  intro p e R s m args below meth c H locs cells slots Qf ls hC hH hL hF
  exact W.lcmp hC.1 hC.2.1 hdg (k p e R s m args below meth c H locs cells slots Qf ls hC hH hL hF)
theorem R_dup {va : Value} (hdg : decode cc pc = .ok (.dup, 1)) (hva : va.category = 1) (hn : pc + 1 = n) (k : V G l own cc nL dep lg ret Q n lo (va :: va :: st) μ) : V G l own cc nL dep lg ret Q pc lo (va :: st) μ := by
  subst hn
  intro p e R s m args below meth c H locs cells slots Qf ls hC hH hL hF
  exact lv_dup hC.1 hC.2.1 hdg hva (k p e R s m args below meth c H locs cells slots Qf ls hC hH hL hF)
theorem R_dup2 {va vb : Value} (hdg : decode cc pc = .ok (.dup2, 1)) (hva : va.category = 1) (hvb : vb.category = 1) (hn : pc + 1 = n) (k : V G l own cc nL dep lg ret Q n lo (va :: vb :: va :: vb :: st) μ) : V G l own cc nL dep lg ret Q pc lo (va :: vb :: st) μ := by
  subst hn
  intro p e R s m args below meth c H locs cells slots Qf ls hC hH hL hF
  exact lv_dup2_11 hC.1 hC.2.1 hdg hva hvb (k p e R s m args below meth c H locs cells slots Qf ls hC hH hL hF)
theorem R_iconst {i : Int} {v : Int32} (hdg : decode cc pc = .ok (.iconst i, 1)) (hv : Int32.ofInt i = v) (hn : pc + 1 = n) (k : V G l own cc nL dep lg ret Q n lo (.int v :: st) μ) : V G l own cc nL dep lg ret Q pc lo (st) μ := by
  subst hn
  intro p e R s m args below meth c H locs cells slots Qf ls hC hH hL hF
  exact lv_iconst hC.1 hC.2.1 hdg hv (k p e R s m args below meth c H locs cells slots Qf ls hC hH hL hF)
theorem R_bipush {i : Int} {v : Int32} (hdg : decode cc pc = .ok (.bipush i, 2)) (hv : (Int8.ofInt i).toInt32 = v) (hn : pc + 2 = n) (k : V G l own cc nL dep lg ret Q n lo (.int v :: st) μ) : V G l own cc nL dep lg ret Q pc lo (st) μ := by
  subst hn
  intro p e R s m args below meth c H locs cells slots Qf ls hC hH hL hF
  exact lv_bipush hC.1 hC.2.1 hdg hv (k p e R s m args below meth c H locs cells slots Qf ls hC hH hL hF)
theorem R_sipush {i : Int} {v : Int32} (hdg : decode cc pc = .ok (.sipush i, 3)) (hv : (Int16.ofInt i).toInt32 = v) (hn : pc + 3 = n) (k : V G l own cc nL dep lg ret Q n lo (.int v :: st) μ) : V G l own cc nL dep lg ret Q pc lo (st) μ := by
  subst hn
  intro p e R s m args below meth c H locs cells slots Qf ls hC hH hL hF
  exact lv_sipush hC.1 hC.2.1 hdg hv (k p e R s m args below meth c H locs cells slots Qf ls hC hH hL hF)
theorem R_lconst {i : Fin 2} {v : Int64} (hdg : decode cc pc = .ok (.lconst i, 1)) (hv : Int64.ofNat (i : Nat) = v) (hn : pc + 1 = n) (k : V G l own cc nL dep lg ret Q n lo (.long v :: st) μ) : V G l own cc nL dep lg ret Q pc lo (st) μ := by
  subst hn
  intro p e R s m args below meth c H locs cells slots Qf ls hC hH hL hF
  exact lv_lconst hC.1 hC.2.1 hdg hv (k p e R s m args below meth c H locs cells slots Qf ls hC hH hL hF)
theorem R_ldc2 {ix : Nat} {v : Int64} (hdg : decode cc pc = .ok (.ldc2_w ix, 3)) (hw : Cond.constantLong own ix v ∈ lw_tbl) (hn : pc + 3 = n) (k : V G l own cc nL dep lg ret Q n lo (.long v :: st) μ) : V G l own cc nL dep lg ret Q pc lo (st) μ := by
  subst hn
  intro p e R s m args below meth c H locs cells slots Qf ls hC hH hL hF
  exact lv_ldc2 hC.1 hC.2.1 hC.2.2.2.1 (hC.2.2.2.2.1 _ (mTT hw rfl)) hdg (k p e R s m args below meth c H locs cells slots Qf ls hC hH hL hF)
theorem R_ldcw {ix : Nat} {v : Int32} (hdg : decode cc pc = .ok (.ldc_w ix, 3)) (hw : Cond.constant own ix v ∈ lw_tbl) (hn : pc + 3 = n) (k : V G l own cc nL dep lg ret Q n lo (.int v :: st) μ) : V G l own cc nL dep lg ret Q pc lo (st) μ := by
  subst hn
  intro p e R s m args below meth c H locs cells slots Qf ls hC hH hL hF
  exact lv_ldcw hC.1 hC.2.1 hC.2.2.2.1 (hC.2.2.2.2.1 _ (mTT hw rfl)) hdg (k p e R s m args below meth c H locs cells slots Qf ls hC hH hL hF)
theorem R_iload {i : Nat} {x : Int32} (hdg : decode cc pc = .ok (.iload i, 2)) (hl : lo[i]? = some (some (.int x))) (hn : pc + 2 = n) (k : V G l own cc nL dep lg ret Q n lo (.int x :: st) μ) : V G l own cc nL dep lg ret Q pc lo (st) μ := by
  subst hn
  intro p e R s m args below meth c H locs cells slots Qf ls hC hH hL hF
  exact lv_iload hC.1 hC.2.1 hdg (hL.2.2 _ _ hl).1 (k p e R s m args below meth c H locs cells slots Qf ls hC hH hL hF)
theorem R_aload {i a : Nat} (hdg : decode cc pc = .ok (.aload i, 2)) (hl : lo[i]? = some (some (.ref a))) (hn : pc + 2 = n) (k : V G l own cc nL dep lg ret Q n lo (.ref a :: st) μ) : V G l own cc nL dep lg ret Q pc lo (st) μ := by
  subst hn
  intro p e R s m args below meth c H locs cells slots Qf ls hC hH hL hF
  exact lv_aload hC.1 hC.2.1 hdg (hL.2.2 _ _ hl).1 (k p e R s m args below meth c H locs cells slots Qf ls hC hH hL hF)
theorem R_lload {i : Nat} {x : Int64} (hdg : decode cc pc = .ok (.lload i, 2)) (hl : lo[i]? = some (some (.long x))) (hn : pc + 2 = n) (k : V G l own cc nL dep lg ret Q n lo (.long x :: st) μ) : V G l own cc nL dep lg ret Q pc lo (st) μ := by
  subst hn
  intro p e R s m args below meth c H locs cells slots Qf ls hC hH hL hF
  exact lv_lload hC.1 hC.2.1 hdg (hL.2.2 _ _ hl).1 (k p e R s m args below meth c H locs cells slots Qf ls hC hH hL hF)
theorem R_iload_n {j : Fin 4} {x : Int32} (hdg : decode cc pc = .ok (.iload_n j, 1)) (hl : lo[(j : Nat)]? = some (some (.int x))) (hn : pc + 1 = n) (k : V G l own cc nL dep lg ret Q n lo (.int x :: st) μ) : V G l own cc nL dep lg ret Q pc lo (st) μ := by
  subst hn
  intro p e R s m args below meth c H locs cells slots Qf ls hC hH hL hF
  exact lv_iload_n hC.1 hC.2.1 hdg rfl (hL.2.2 _ _ hl).1 (k p e R s m args below meth c H locs cells slots Qf ls hC hH hL hF)
theorem R_aload_n {j : Fin 4} {x : Nat} (hdg : decode cc pc = .ok (.aload_n j, 1)) (hl : lo[(j : Nat)]? = some (some (.ref x))) (hn : pc + 1 = n) (k : V G l own cc nL dep lg ret Q n lo (.ref x :: st) μ) : V G l own cc nL dep lg ret Q pc lo (st) μ := by
  subst hn
  intro p e R s m args below meth c H locs cells slots Qf ls hC hH hL hF
  exact lv_aload_n hC.1 hC.2.1 hdg rfl (hL.2.2 _ _ hl).1 (k p e R s m args below meth c H locs cells slots Qf ls hC hH hL hF)
theorem R_lload_n {j : Fin 4} {x : Int64} (hdg : decode cc pc = .ok (.lload_n j, 1)) (hl : lo[(j : Nat)]? = some (some (.long x))) (hn : pc + 1 = n) (k : V G l own cc nL dep lg ret Q n lo (.long x :: st) μ) : V G l own cc nL dep lg ret Q pc lo (st) μ := by
  subst hn
  intro p e R s m args below meth c H locs cells slots Qf ls hC hH hL hF
  exact lv_lload_n hC.1 hC.2.1 hdg rfl (hL.2.2 _ _ hl).1 (k p e R s m args below meth c H locs cells slots Qf ls hC hH hL hF)
theorem R_if_eq {x : Int32} {off : Int} {tgt : Nat} (hdg : decode cc pc = .ok (.ifCond .eq off, 3)) (ht : (pc : Int) + off = (tgt : Int)) (hn : pc + 3 = n) (kt : x = 0 → V G l own cc nL dep lg ret Q tgt lo st μ) (kf : ¬ (x = 0) → V G l own cc nL dep lg ret Q n lo st μ) : V G l own cc nL dep lg ret Q pc lo (.int x :: st) μ := by
  subst hn
  intro p e R s m args below meth c H locs cells slots Qf ls hC hH hL hF
  exact lv_if_eq hC.1 hC.2.1 hdg ht (fun h => kt h p e R s m args below meth c H locs cells slots Qf ls hC hH hL hF) (fun h => kf h p e R s m args below meth c H locs cells slots Qf ls hC hH hL hF)
theorem R_if_eq_t {x : Int32} {off : Int} {tgt : Nat} (hdg : decode cc pc = .ok (.ifCond .eq off, 3)) (ht : (pc : Int) + off = (tgt : Int)) (h : x = 0) (kt : V G l own cc nL dep lg ret Q tgt lo st μ) : V G l own cc nL dep lg ret Q pc lo (.int x :: st) μ :=
  R_if_eq hdg ht rfl (fun _ => kt) (fun q => (q h).elim)
theorem R_if_eq_f {x : Int32} {off : Int} {tgt : Nat} (hdg : decode cc pc = .ok (.ifCond .eq off, 3)) (ht : (pc : Int) + off = (tgt : Int)) (hn : pc + 3 = n) (h : ¬ (x = 0)) (kf : V G l own cc nL dep lg ret Q n lo st μ) : V G l own cc nL dep lg ret Q pc lo (.int x :: st) μ :=
  R_if_eq hdg ht hn (fun q => (h q).elim) (fun _ => kf)
theorem R_icmp_eq {x y : Int32} {off : Int} {tgt : Nat} (hdg : decode cc pc = .ok (.if_icmp .eq off, 3)) (ht : (pc : Int) + off = (tgt : Int)) (hn : pc + 3 = n) (kt : x = y → V G l own cc nL dep lg ret Q tgt lo st μ) (kf : ¬ (x = y) → V G l own cc nL dep lg ret Q n lo st μ) : V G l own cc nL dep lg ret Q pc lo (.int y :: .int x :: st) μ := by
  subst hn
  intro p e R s m args below meth c H locs cells slots Qf ls hC hH hL hF
  exact lv_icmp_eq hC.1 hC.2.1 hdg ht (fun h => kt h p e R s m args below meth c H locs cells slots Qf ls hC hH hL hF) (fun h => kf h p e R s m args below meth c H locs cells slots Qf ls hC hH hL hF)
theorem R_icmp_eq_t {x y : Int32} {off : Int} {tgt : Nat} (hdg : decode cc pc = .ok (.if_icmp .eq off, 3)) (ht : (pc : Int) + off = (tgt : Int)) (h : x = y) (kt : V G l own cc nL dep lg ret Q tgt lo st μ) : V G l own cc nL dep lg ret Q pc lo (.int y :: .int x :: st) μ :=
  R_icmp_eq hdg ht rfl (fun _ => kt) (fun q => (q h).elim)
theorem R_icmp_eq_f {x y : Int32} {off : Int} {tgt : Nat} (hdg : decode cc pc = .ok (.if_icmp .eq off, 3)) (ht : (pc : Int) + off = (tgt : Int)) (hn : pc + 3 = n) (h : ¬ (x = y)) (kf : V G l own cc nL dep lg ret Q n lo st μ) : V G l own cc nL dep lg ret Q pc lo (.int y :: .int x :: st) μ :=
  R_icmp_eq hdg ht hn (fun q => (h q).elim) (fun _ => kf)
theorem R_if_ne {x : Int32} {off : Int} {tgt : Nat} (hdg : decode cc pc = .ok (.ifCond .ne off, 3)) (ht : (pc : Int) + off = (tgt : Int)) (hn : pc + 3 = n) (kt : ¬ x = 0 → V G l own cc nL dep lg ret Q tgt lo st μ) (kf : x = 0 → V G l own cc nL dep lg ret Q n lo st μ) : V G l own cc nL dep lg ret Q pc lo (.int x :: st) μ := by
  subst hn
  intro p e R s m args below meth c H locs cells slots Qf ls hC hH hL hF
  exact lv_if_ne hC.1 hC.2.1 hdg ht (fun h => kt h p e R s m args below meth c H locs cells slots Qf ls hC hH hL hF) (fun h => kf h p e R s m args below meth c H locs cells slots Qf ls hC hH hL hF)
theorem R_if_ne_t {x : Int32} {off : Int} {tgt : Nat} (hdg : decode cc pc = .ok (.ifCond .ne off, 3)) (ht : (pc : Int) + off = (tgt : Int)) (h : ¬ x = 0) (kt : V G l own cc nL dep lg ret Q tgt lo st μ) : V G l own cc nL dep lg ret Q pc lo (.int x :: st) μ :=
  R_if_ne hdg ht rfl (fun _ => kt) (fun q => (h q).elim)
theorem R_if_ne_f {x : Int32} {off : Int} {tgt : Nat} (hdg : decode cc pc = .ok (.ifCond .ne off, 3)) (ht : (pc : Int) + off = (tgt : Int)) (hn : pc + 3 = n) (h : x = 0) (kf : V G l own cc nL dep lg ret Q n lo st μ) : V G l own cc nL dep lg ret Q pc lo (.int x :: st) μ :=
  R_if_ne hdg ht hn (fun q => (q h).elim) (fun _ => kf)
theorem R_icmp_ne {x y : Int32} {off : Int} {tgt : Nat} (hdg : decode cc pc = .ok (.if_icmp .ne off, 3)) (ht : (pc : Int) + off = (tgt : Int)) (hn : pc + 3 = n) (kt : ¬ x = y → V G l own cc nL dep lg ret Q tgt lo st μ) (kf : x = y → V G l own cc nL dep lg ret Q n lo st μ) : V G l own cc nL dep lg ret Q pc lo (.int y :: .int x :: st) μ := by
  subst hn
  intro p e R s m args below meth c H locs cells slots Qf ls hC hH hL hF
  exact lv_icmp_ne hC.1 hC.2.1 hdg ht (fun h => kt h p e R s m args below meth c H locs cells slots Qf ls hC hH hL hF) (fun h => kf h p e R s m args below meth c H locs cells slots Qf ls hC hH hL hF)
theorem R_icmp_ne_t {x y : Int32} {off : Int} {tgt : Nat} (hdg : decode cc pc = .ok (.if_icmp .ne off, 3)) (ht : (pc : Int) + off = (tgt : Int)) (h : ¬ x = y) (kt : V G l own cc nL dep lg ret Q tgt lo st μ) : V G l own cc nL dep lg ret Q pc lo (.int y :: .int x :: st) μ :=
  R_icmp_ne hdg ht rfl (fun _ => kt) (fun q => (h q).elim)
theorem R_icmp_ne_f {x y : Int32} {off : Int} {tgt : Nat} (hdg : decode cc pc = .ok (.if_icmp .ne off, 3)) (ht : (pc : Int) + off = (tgt : Int)) (hn : pc + 3 = n) (h : x = y) (kf : V G l own cc nL dep lg ret Q n lo st μ) : V G l own cc nL dep lg ret Q pc lo (.int y :: .int x :: st) μ :=
  R_icmp_ne hdg ht hn (fun q => (q h).elim) (fun _ => kf)
theorem R_if_lt {x : Int32} {off : Int} {tgt : Nat} (hdg : decode cc pc = .ok (.ifCond .lt off, 3)) (ht : (pc : Int) + off = (tgt : Int)) (hn : pc + 3 = n) (kt : x < 0 → V G l own cc nL dep lg ret Q tgt lo st μ) (kf : ¬ (x < 0) → V G l own cc nL dep lg ret Q n lo st μ) : V G l own cc nL dep lg ret Q pc lo (.int x :: st) μ := by
  subst hn
  intro p e R s m args below meth c H locs cells slots Qf ls hC hH hL hF
  exact lv_if_lt hC.1 hC.2.1 hdg ht (fun h => kt h p e R s m args below meth c H locs cells slots Qf ls hC hH hL hF) (fun h => kf h p e R s m args below meth c H locs cells slots Qf ls hC hH hL hF)
theorem R_if_lt_t {x : Int32} {off : Int} {tgt : Nat} (hdg : decode cc pc = .ok (.ifCond .lt off, 3)) (ht : (pc : Int) + off = (tgt : Int)) (h : x < 0) (kt : V G l own cc nL dep lg ret Q tgt lo st μ) : V G l own cc nL dep lg ret Q pc lo (.int x :: st) μ :=
  R_if_lt hdg ht rfl (fun _ => kt) (fun q => (q h).elim)
theorem R_if_lt_f {x : Int32} {off : Int} {tgt : Nat} (hdg : decode cc pc = .ok (.ifCond .lt off, 3)) (ht : (pc : Int) + off = (tgt : Int)) (hn : pc + 3 = n) (h : ¬ (x < 0)) (kf : V G l own cc nL dep lg ret Q n lo st μ) : V G l own cc nL dep lg ret Q pc lo (.int x :: st) μ :=
  R_if_lt hdg ht hn (fun q => (h q).elim) (fun _ => kf)
theorem R_icmp_lt {x y : Int32} {off : Int} {tgt : Nat} (hdg : decode cc pc = .ok (.if_icmp .lt off, 3)) (ht : (pc : Int) + off = (tgt : Int)) (hn : pc + 3 = n) (kt : x < y → V G l own cc nL dep lg ret Q tgt lo st μ) (kf : ¬ (x < y) → V G l own cc nL dep lg ret Q n lo st μ) : V G l own cc nL dep lg ret Q pc lo (.int y :: .int x :: st) μ := by
  subst hn
  intro p e R s m args below meth c H locs cells slots Qf ls hC hH hL hF
  exact lv_icmp_lt hC.1 hC.2.1 hdg ht (fun h => kt h p e R s m args below meth c H locs cells slots Qf ls hC hH hL hF) (fun h => kf h p e R s m args below meth c H locs cells slots Qf ls hC hH hL hF)
theorem R_icmp_lt_t {x y : Int32} {off : Int} {tgt : Nat} (hdg : decode cc pc = .ok (.if_icmp .lt off, 3)) (ht : (pc : Int) + off = (tgt : Int)) (h : x < y) (kt : V G l own cc nL dep lg ret Q tgt lo st μ) : V G l own cc nL dep lg ret Q pc lo (.int y :: .int x :: st) μ :=
  R_icmp_lt hdg ht rfl (fun _ => kt) (fun q => (q h).elim)
theorem R_icmp_lt_f {x y : Int32} {off : Int} {tgt : Nat} (hdg : decode cc pc = .ok (.if_icmp .lt off, 3)) (ht : (pc : Int) + off = (tgt : Int)) (hn : pc + 3 = n) (h : ¬ (x < y)) (kf : V G l own cc nL dep lg ret Q n lo st μ) : V G l own cc nL dep lg ret Q pc lo (.int y :: .int x :: st) μ :=
  R_icmp_lt hdg ht hn (fun q => (h q).elim) (fun _ => kf)
theorem R_if_ge {x : Int32} {off : Int} {tgt : Nat} (hdg : decode cc pc = .ok (.ifCond .ge off, 3)) (ht : (pc : Int) + off = (tgt : Int)) (hn : pc + 3 = n) (kt : 0 ≤ x → V G l own cc nL dep lg ret Q tgt lo st μ) (kf : ¬ (0 ≤ x) → V G l own cc nL dep lg ret Q n lo st μ) : V G l own cc nL dep lg ret Q pc lo (.int x :: st) μ := by
  subst hn
  intro p e R s m args below meth c H locs cells slots Qf ls hC hH hL hF
  exact lv_if_ge hC.1 hC.2.1 hdg ht (fun h => kt h p e R s m args below meth c H locs cells slots Qf ls hC hH hL hF) (fun h => kf h p e R s m args below meth c H locs cells slots Qf ls hC hH hL hF)
theorem R_if_ge_t {x : Int32} {off : Int} {tgt : Nat} (hdg : decode cc pc = .ok (.ifCond .ge off, 3)) (ht : (pc : Int) + off = (tgt : Int)) (h : 0 ≤ x) (kt : V G l own cc nL dep lg ret Q tgt lo st μ) : V G l own cc nL dep lg ret Q pc lo (.int x :: st) μ :=
  R_if_ge hdg ht rfl (fun _ => kt) (fun q => (q h).elim)
theorem R_if_ge_f {x : Int32} {off : Int} {tgt : Nat} (hdg : decode cc pc = .ok (.ifCond .ge off, 3)) (ht : (pc : Int) + off = (tgt : Int)) (hn : pc + 3 = n) (h : ¬ (0 ≤ x)) (kf : V G l own cc nL dep lg ret Q n lo st μ) : V G l own cc nL dep lg ret Q pc lo (.int x :: st) μ :=
  R_if_ge hdg ht hn (fun q => (h q).elim) (fun _ => kf)
theorem R_icmp_ge {x y : Int32} {off : Int} {tgt : Nat} (hdg : decode cc pc = .ok (.if_icmp .ge off, 3)) (ht : (pc : Int) + off = (tgt : Int)) (hn : pc + 3 = n) (kt : y ≤ x → V G l own cc nL dep lg ret Q tgt lo st μ) (kf : ¬ (y ≤ x) → V G l own cc nL dep lg ret Q n lo st μ) : V G l own cc nL dep lg ret Q pc lo (.int y :: .int x :: st) μ := by
  subst hn
  intro p e R s m args below meth c H locs cells slots Qf ls hC hH hL hF
  exact lv_icmp_ge hC.1 hC.2.1 hdg ht (fun h => kt h p e R s m args below meth c H locs cells slots Qf ls hC hH hL hF) (fun h => kf h p e R s m args below meth c H locs cells slots Qf ls hC hH hL hF)
theorem R_icmp_ge_t {x y : Int32} {off : Int} {tgt : Nat} (hdg : decode cc pc = .ok (.if_icmp .ge off, 3)) (ht : (pc : Int) + off = (tgt : Int)) (h : y ≤ x) (kt : V G l own cc nL dep lg ret Q tgt lo st μ) : V G l own cc nL dep lg ret Q pc lo (.int y :: .int x :: st) μ :=
  R_icmp_ge hdg ht rfl (fun _ => kt) (fun q => (q h).elim)
theorem R_icmp_ge_f {x y : Int32} {off : Int} {tgt : Nat} (hdg : decode cc pc = .ok (.if_icmp .ge off, 3)) (ht : (pc : Int) + off = (tgt : Int)) (hn : pc + 3 = n) (h : ¬ (y ≤ x)) (kf : V G l own cc nL dep lg ret Q n lo st μ) : V G l own cc nL dep lg ret Q pc lo (.int y :: .int x :: st) μ :=
  R_icmp_ge hdg ht hn (fun q => (h q).elim) (fun _ => kf)
theorem R_if_gt {x : Int32} {off : Int} {tgt : Nat} (hdg : decode cc pc = .ok (.ifCond .gt off, 3)) (ht : (pc : Int) + off = (tgt : Int)) (hn : pc + 3 = n) (kt : 0 < x → V G l own cc nL dep lg ret Q tgt lo st μ) (kf : ¬ (0 < x) → V G l own cc nL dep lg ret Q n lo st μ) : V G l own cc nL dep lg ret Q pc lo (.int x :: st) μ := by
  subst hn
  intro p e R s m args below meth c H locs cells slots Qf ls hC hH hL hF
  exact lv_if_gt hC.1 hC.2.1 hdg ht (fun h => kt h p e R s m args below meth c H locs cells slots Qf ls hC hH hL hF) (fun h => kf h p e R s m args below meth c H locs cells slots Qf ls hC hH hL hF)
theorem R_if_gt_t {x : Int32} {off : Int} {tgt : Nat} (hdg : decode cc pc = .ok (.ifCond .gt off, 3)) (ht : (pc : Int) + off = (tgt : Int)) (h : 0 < x) (kt : V G l own cc nL dep lg ret Q tgt lo st μ) : V G l own cc nL dep lg ret Q pc lo (.int x :: st) μ :=
  R_if_gt hdg ht rfl (fun _ => kt) (fun q => (q h).elim)
theorem R_if_gt_f {x : Int32} {off : Int} {tgt : Nat} (hdg : decode cc pc = .ok (.ifCond .gt off, 3)) (ht : (pc : Int) + off = (tgt : Int)) (hn : pc + 3 = n) (h : ¬ (0 < x)) (kf : V G l own cc nL dep lg ret Q n lo st μ) : V G l own cc nL dep lg ret Q pc lo (.int x :: st) μ :=
  R_if_gt hdg ht hn (fun q => (h q).elim) (fun _ => kf)
theorem R_icmp_gt {x y : Int32} {off : Int} {tgt : Nat} (hdg : decode cc pc = .ok (.if_icmp .gt off, 3)) (ht : (pc : Int) + off = (tgt : Int)) (hn : pc + 3 = n) (kt : y < x → V G l own cc nL dep lg ret Q tgt lo st μ) (kf : ¬ (y < x) → V G l own cc nL dep lg ret Q n lo st μ) : V G l own cc nL dep lg ret Q pc lo (.int y :: .int x :: st) μ := by
  subst hn
  intro p e R s m args below meth c H locs cells slots Qf ls hC hH hL hF
  exact lv_icmp_gt hC.1 hC.2.1 hdg ht (fun h => kt h p e R s m args below meth c H locs cells slots Qf ls hC hH hL hF) (fun h => kf h p e R s m args below meth c H locs cells slots Qf ls hC hH hL hF)
theorem R_icmp_gt_t {x y : Int32} {off : Int} {tgt : Nat} (hdg : decode cc pc = .ok (.if_icmp .gt off, 3)) (ht : (pc : Int) + off = (tgt : Int)) (h : y < x) (kt : V G l own cc nL dep lg ret Q tgt lo st μ) : V G l own cc nL dep lg ret Q pc lo (.int y :: .int x :: st) μ :=
  R_icmp_gt hdg ht rfl (fun _ => kt) (fun q => (q h).elim)
theorem R_icmp_gt_f {x y : Int32} {off : Int} {tgt : Nat} (hdg : decode cc pc = .ok (.if_icmp .gt off, 3)) (ht : (pc : Int) + off = (tgt : Int)) (hn : pc + 3 = n) (h : ¬ (y < x)) (kf : V G l own cc nL dep lg ret Q n lo st μ) : V G l own cc nL dep lg ret Q pc lo (.int y :: .int x :: st) μ :=
  R_icmp_gt hdg ht hn (fun q => (h q).elim) (fun _ => kf)
theorem R_if_le {x : Int32} {off : Int} {tgt : Nat} (hdg : decode cc pc = .ok (.ifCond .le off, 3)) (ht : (pc : Int) + off = (tgt : Int)) (hn : pc + 3 = n) (kt : x ≤ 0 → V G l own cc nL dep lg ret Q tgt lo st μ) (kf : ¬ (x ≤ 0) → V G l own cc nL dep lg ret Q n lo st μ) : V G l own cc nL dep lg ret Q pc lo (.int x :: st) μ := by
  subst hn
  intro p e R s m args below meth c H locs cells slots Qf ls hC hH hL hF
  exact lv_if_le hC.1 hC.2.1 hdg ht (fun h => kt h p e R s m args below meth c H locs cells slots Qf ls hC hH hL hF) (fun h => kf h p e R s m args below meth c H locs cells slots Qf ls hC hH hL hF)
theorem R_if_le_t {x : Int32} {off : Int} {tgt : Nat} (hdg : decode cc pc = .ok (.ifCond .le off, 3)) (ht : (pc : Int) + off = (tgt : Int)) (h : x ≤ 0) (kt : V G l own cc nL dep lg ret Q tgt lo st μ) : V G l own cc nL dep lg ret Q pc lo (.int x :: st) μ :=
  R_if_le hdg ht rfl (fun _ => kt) (fun q => (q h).elim)
theorem R_if_le_f {x : Int32} {off : Int} {tgt : Nat} (hdg : decode cc pc = .ok (.ifCond .le off, 3)) (ht : (pc : Int) + off = (tgt : Int)) (hn : pc + 3 = n) (h : ¬ (x ≤ 0)) (kf : V G l own cc nL dep lg ret Q n lo st μ) : V G l own cc nL dep lg ret Q pc lo (.int x :: st) μ :=
  R_if_le hdg ht hn (fun q => (h q).elim) (fun _ => kf)
theorem R_icmp_le {x y : Int32} {off : Int} {tgt : Nat} (hdg : decode cc pc = .ok (.if_icmp .le off, 3)) (ht : (pc : Int) + off = (tgt : Int)) (hn : pc + 3 = n) (kt : x ≤ y → V G l own cc nL dep lg ret Q tgt lo st μ) (kf : ¬ (x ≤ y) → V G l own cc nL dep lg ret Q n lo st μ) : V G l own cc nL dep lg ret Q pc lo (.int y :: .int x :: st) μ := by
  subst hn
  intro p e R s m args below meth c H locs cells slots Qf ls hC hH hL hF
  exact lv_icmp_le hC.1 hC.2.1 hdg ht (fun h => kt h p e R s m args below meth c H locs cells slots Qf ls hC hH hL hF) (fun h => kf h p e R s m args below meth c H locs cells slots Qf ls hC hH hL hF)
theorem R_icmp_le_t {x y : Int32} {off : Int} {tgt : Nat} (hdg : decode cc pc = .ok (.if_icmp .le off, 3)) (ht : (pc : Int) + off = (tgt : Int)) (h : x ≤ y) (kt : V G l own cc nL dep lg ret Q tgt lo st μ) : V G l own cc nL dep lg ret Q pc lo (.int y :: .int x :: st) μ :=
  R_icmp_le hdg ht rfl (fun _ => kt) (fun q => (q h).elim)
theorem R_icmp_le_f {x y : Int32} {off : Int} {tgt : Nat} (hdg : decode cc pc = .ok (.if_icmp .le off, 3)) (ht : (pc : Int) + off = (tgt : Int)) (hn : pc + 3 = n) (h : ¬ (x ≤ y)) (kf : V G l own cc nL dep lg ret Q n lo st μ) : V G l own cc nL dep lg ret Q pc lo (.int y :: .int x :: st) μ :=
  R_icmp_le hdg ht hn (fun q => (h q).elim) (fun _ => kf)
theorem R_goto {off : Int} {tgt : Nat} (hdg : decode cc pc = .ok (.goto off, 3)) (ht : (pc : Int) + off = (tgt : Int)) (k : V G l own cc nL dep lg ret Q tgt lo st μ) : V G l own cc nL dep lg ret Q pc lo st μ := by
  intro p e R s m args below meth c H locs cells slots Qf ls hC hH hL hF
  exact lv_goto hC.1 hC.2.1 hdg ht (k p e R s m args below meth c H locs cells slots Qf ls hC hH hL hF)
theorem R_tableOut {dflt l0 hi : Int} {offs : Array Int} {len : Nat} {x : Int32} {tgt : Nat} (hdg : decode cc pc = .ok (.tableswitch dflt l0 hi offs, len)) (h : x.toInt < l0 ∨ hi < x.toInt) (ht : (pc : Int) + dflt = (tgt : Int)) (k : V G l own cc nL dep lg ret Q tgt lo st μ) : V G l own cc nL dep lg ret Q pc lo (.int x :: st) μ := by
  intro p e R s m args below meth c H locs cells slots Qf ls hC hH hL hF
  exact lv_tableOut hC.1 hC.2.1 hdg h ht (k p e R s m args below meth c H locs cells slots Qf ls hC hH hL hF)
theorem R_tableIn {dflt l0 hi : Int} {offs : Array Int} {len : Nat} {x : Int32} {off : Int} {tgt : Nat} (hdg : decode cc pc = .ok (.tableswitch dflt l0 hi offs, len)) (h1 : ¬ x.toInt < l0) (h2 : ¬ hi < x.toInt) (ho : offs[(x.toInt - l0).toNat]? = some off) (ht : (pc : Int) + off = (tgt : Int)) (k : V G l own cc nL dep lg ret Q tgt lo st μ) : V G l own cc nL dep lg ret Q pc lo (.int x :: st) μ := by
  intro p e R s m args below meth c H locs cells slots Qf ls hC hH hL hF
  exact lv_tableIn hC.1 hC.2.1 hdg h1 h2 ho ht (k p e R s m args below meth c H locs cells slots Qf ls hC hH hL hF)
def prs : Nat → List (Option Value) → List (Nat × Value)
  | _, [] => []
  | i, none :: t => prs (i + 1) t
  | i, some v :: t => (i, v) :: prs (i + 1) t
theorem prs_mem (i : Nat) (v : Value) : ∀ (lo : List (Option Value)) (b : Nat), (b + i, v) ∈ prs b lo ↔ lo[i]? = some (some v)
  | [], b => by simp [prs]
  | o :: t, b => by
    have key : ∀ (lo : List (Option Value)) (b j : Nat) (v : Value), (j, v) ∈ prs b lo → b ≤ j := by
      intro lo
      induction lo with
      | nil => intro b j v h; simp [prs] at h
      | cons o t ih =>
        intro b j v h
        cases o with
        | none => exact Nat.le_trans (Nat.le_succ b) (ih _ _ _ h)
        | some w =>
          rcases List.mem_cons.mp h with h | h
          · cases h; exact Nat.le_refl _
          · exact Nat.le_trans (Nat.le_succ b) (ih _ _ _ h)
    cases i with
    | zero =>
      cases o with
      | none =>
        constructor
        · intro h; exact absurd (key _ _ _ _ (show (b + 0, v) ∈ prs (b + 1) t from h)) (by omega)
        · intro h; simp at h
      | some w =>
        constructor
        · intro h
          rcases List.mem_cons.mp (show (b + 0, v) ∈ (b, w) :: prs (b + 1) t from h) with h | h
          · cases h; rfl
          · exact absurd (key _ _ _ _ h) (by omega)
        · intro h
          have : w = v := by simpa using h
          subst this
          exact List.mem_cons_self
    | succ i =>
      have ih := prs_mem i v t (b + 1)
      have e : b + (i + 1) = b + 1 + i := by omega
      rw [e, List.getElem?_cons_succ]
      cases o with
      | none => exact ih
      | some w =>
        constructor
        · intro h
          rcases List.mem_cons.mp (show (b + 1 + i, v) ∈ (b, w) :: prs (b + 1) t from h) with h | h
          · exact absurd (congrArg Prod.fst h) (by simp; omega)
          · exact ih.mp h
        · intro h; exact List.mem_cons_of_mem _ (ih.mpr h)
theorem lm_has {ls : Array Slot} (h : lm lg ls nL lo) : lv_has ls nL (prs 0 lo) := ⟨h.1, h.2.1, fun q hq => (h.2.2 q.1 q.2 ((prs_mem q.1 q.2 lo 0).mp (by rw [Nat.zero_add]; exact hq))).1⟩
theorem lm_of {ls : Array Slot} (h : lm false ls nL lo) {i : Nat} (hi : i < lo.length) {v : Value} (hv : v.category = 1) {ls' : Array Slot} (h' : lv_has ls' nL ((i, v) :: (prs 0 lo).filter (fun q => !(q.1 == i) && !(q.1 + 1 == i && q.2.category == 2)))) : lm false ls' nL (lo.set i (some v)) := by
  refine ⟨h'.1, h'.2.1, fun j w hj => ?_⟩
  by_cases e : i = j
  · subst e
    rw [List.getElem?_set_self hi] at hj
    cases hj
    exact ⟨h'.2.2 _ List.mem_cons_self, fun _ => hv⟩
  · rw [List.getElem?_set_ne e] at hj
    have hc := (h.2.2 j w hj).2 rfl
    refine ⟨h'.2.2 (j, w) (List.mem_cons_of_mem _ (List.mem_filter.mpr ⟨?_, ?_⟩)), fun _ => hc⟩
    · have := (prs_mem j w lo 0).mpr hj
      rwa [Nat.zero_add] at this
    · have e' : ¬ j = i := fun z => e z.symm
      simp [e', hc]
theorem R_istore {i : Nat} {x : Int32} (hdg : decode cc pc = .ok (.istore i, 2)) (hn : pc + 2 = n) (hi : i < lo.length) (hi2 : i < nL) (k : V G l own cc nL dep false ret Q n (lo.set i (some (.int x))) st μ) : V G l own cc nL dep false ret Q pc lo (.int x :: st) μ := by
  subst hn
  intro p e R s m args below meth c H locs cells slots Qf ls hC hH hL hF
  exact lv_istore hC.1 hC.2.1 hdg (lm_has hL) hi2 rfl (fun ls' h' => k p e R s m args below meth c H locs cells slots Qf ls' hC hH (lm_of hL hi rfl h') hF)
theorem R_istore_n {j : Fin 4} {x : Int32} (hdg : decode cc pc = .ok (.istore_n j, 1)) (hn : pc + 1 = n) (hi : (j : Nat) < lo.length) (hi2 : (j : Nat) < nL) (k : V G l own cc nL dep false ret Q n (lo.set (j : Nat) (some (.int x))) st μ) : V G l own cc nL dep false ret Q pc lo (.int x :: st) μ := by
  subst hn
  intro p e R s m args below meth c H locs cells slots Qf ls hC hH hL hF
  exact lv_istore_n hC.1 hC.2.1 hdg rfl (lm_has hL) hi2 rfl (fun ls' h' => k p e R s m args below meth c H locs cells slots Qf ls' hC hH (lm_of hL hi rfl h') hF)
theorem R_astore {i : Nat} {x : Nat} (hdg : decode cc pc = .ok (.astore i, 2)) (hn : pc + 2 = n) (hi : i < lo.length) (hi2 : i < nL) (k : V G l own cc nL dep false ret Q n (lo.set i (some (.ref x))) st μ) : V G l own cc nL dep false ret Q pc lo (.ref x :: st) μ := by
  subst hn
  intro p e R s m args below meth c H locs cells slots Qf ls hC hH hL hF
  exact lv_astore hC.1 hC.2.1 hdg (lm_has hL) hi2 rfl (fun ls' h' => k p e R s m args below meth c H locs cells slots Qf ls' hC hH (lm_of hL hi rfl h') hF)
theorem R_astore_n {j : Fin 4} {x : Nat} (hdg : decode cc pc = .ok (.astore_n j, 1)) (hn : pc + 1 = n) (hi : (j : Nat) < lo.length) (hi2 : (j : Nat) < nL) (k : V G l own cc nL dep false ret Q n (lo.set (j : Nat) (some (.ref x))) st μ) : V G l own cc nL dep false ret Q pc lo (.ref x :: st) μ := by
  subst hn
  intro p e R s m args below meth c H locs cells slots Qf ls hC hH hL hF
  exact lv_astore_n hC.1 hC.2.1 hdg rfl (lm_has hL) hi2 rfl (fun ls' h' => k p e R s m args below meth c H locs cells slots Qf ls' hC hH (lm_of hL hi rfl h') hF)
theorem R_iinc {i : Nat} {d : Int} {x v : Int32} (hdg : decode cc pc = .ok (.iinc i d, 3)) (hn : pc + 3 = n) (hl : lo[i]? = some (some (.int x))) (hv : x + Int32.ofInt d = v) (hi2 : i < nL) (k : V G l own cc nL dep false ret Q n (lo.set i (some (.int v))) st μ) : V G l own cc nL dep false ret Q pc lo st μ := by
  subst hn
  intro p e R s m args below meth c H locs cells slots Qf ls hC hH hL hF
  obtain ⟨j, hj⟩ := List.getElem?_of_mem (show (i, Value.int x) ∈ prs 0 lo from by have := (prs_mem i (.int x) lo 0).mpr hl; rwa [Nat.zero_add] at this)
  exact lv_iinc hC.1 hC.2.1 hdg (lm_has hL) hj hv hi2 rfl (fun ls' h' => k p e R s m args below meth c H locs cells slots Qf ls' hC hH (lm_of hL (List.getElem?_eq_some_iff.mp hl).1 rfl h') hF)
/-- a local that is no longer wanted may be anything -/
theorem V.drop {lo' : List (Option Value)} (h : ∀ (i : Nat) (v : Value), lo'[i]? = some (some v) → lo[i]? = some (some v)) (k : V G l own cc nL dep lg ret Q pc lo' st μ) : V G l own cc nL dep lg ret Q pc lo st μ := by
  intro p e R s m args below meth c H locs cells slots Qf ls hC hH hL hF
  exact k p e R s m args below meth c H locs cells slots Qf ls hC hH ⟨hL.1, hL.2.1, fun i v hi => hL.2.2 i v (h i v hi)⟩ hF
/-- the end may be told weaker -/
theorem V.mono {Q' : Option Value → Mem → Prop} (h : ∀ r μ', Q' r μ' → Q r μ') (k : V G l own cc nL dep lg ret Q' pc lo st μ) : V G l own cc nL dep lg ret Q pc lo st μ := by
  intro p e R s m args below meth c H locs cells slots Qf ls hC hH hL hF
  exact k p e R s m args below meth c H locs cells slots Qf ls hC hH hL (fun r μ' H' locs' ls' pc' q => hF r μ' H' locs' ls' pc' (h r μ' q))
theorem V.eqμ {μ' : Mem} (h : μ = μ') (k : V G l own cc nL dep lg ret Q pc lo st μ') : V G l own cc nL dep lg ret Q pc lo st μ := h ▸ k
theorem V.eqs {st' : List Value} (h : st = st') (k : V G l own cc nL dep lg ret Q pc lo st' μ) : V G l own cc nL dep lg ret Q pc lo st μ := h ▸ k
/-! returns -/
theorem R_iret {x : Int32} {ty : FieldType} (hdg : decode cc pc = .ok (.ireturn, 1)) (hr : ret = some ty) (hn : narrow ty (.int x) = .int x) (hq : Q (some (.int x)) μ) : V G l own cc nL dep lg ret Q pc lo [.int x] μ := by
  intro p e R s m args below meth c H locs cells slots Qf ls hC hH hL hF
  exact hF _ _ _ _ _ _ hq hH (Or.inl ⟨x, rfl, hdg, ty, hr, hn⟩)
theorem R_lret {x : Int64} (hdg : decode cc pc = .ok (.lreturn, 1)) (hr : ret = some .long) (hq : Q (some (.long x)) μ) : V G l own cc nL dep lg ret Q pc lo [.long x] μ := by
  intro p e R s m args below meth c H locs cells slots Qf ls hC hH hL hF
  exact hF _ _ _ _ _ _ hq hH (Or.inr (Or.inl ⟨x, rfl, hdg, hr⟩))
theorem R_aret {a : Nat} {cn : String} (hdg : decode cc pc = .ok (.areturn, 1)) (hr : ret = some (.object cn)) (hq : Q (some (.ref a)) μ) : V G l own cc nL dep lg ret Q pc lo [.ref a] μ := by
  intro p e R s m args below meth c H locs cells slots Qf ls hC hH hL hF
  exact hF _ _ _ _ _ _ hq hH (Or.inr (Or.inr (Or.inl ⟨a, cn, rfl, hdg, hr⟩)))
theorem R_ret (hdg : decode cc pc = .ok (.return_, 1)) (hr : ret = none) (hq : Q none μ) : V G l own cc nL dep lg ret Q pc lo [] μ := by
  intro p e R s m args below meth c H locs cells slots Qf ls hC hH hL hF
  exact hF _ _ _ _ _ _ hq hH (Or.inr (Or.inr (Or.inr ⟨rfl, hdg, hr⟩)))
/-! fields and arrays -/
theorem ce_obj (G : Gm) (μ : Mem) {id ci : Nat} {fs : List (Option (Option Nat))} (hs : sh id = .inl (ci, fs)) : (wl G μ)[id]? = some (G.2.2.1 id, .inr (ci, fs.mapIdx (fun k f => fv G.2.2.1 μ id k f))) := by
  rw [wl_get G μ (sh_lt (by rw [hs]; intro z; cases z)), hs]
  rfl
theorem ce_arr (G : Gm) (μ : Mem) {id t n : Nat} (hs : sh id = .inr (.inl (t, n))) : (wl G μ)[id]? = some (G.2.2.1 id, .inl (tyc G t, n, .inl (μ.1 id))) := by
  rw [wl_get G μ (sh_lt (by rw [hs]; intro z; cases z)), hs]
  rfl
theorem R_get {ci j N : Nat} {C : String} {T : u_T} {ix id : Nat} {fs : List (Option (Option Nat))} {kd : Option (Option Nat)} (hc : classes[ci]? = some (C, T, N)) (hin : ∀ w ∈ u_ws C T N, w ∈ lw_tbl) (hj : j < N) (hT : (T j).1 = C) (hlink : Cond.fieldLink own ix C (T j).2.1 (T j).2.2.1 ∈ lw_tbl) (hs : sh id = .inl (ci, fs)) (hf : fs[j]? = some kd) (hdg : decode cc pc = .ok (.getfield ix, 3)) (hn : pc + 3 = n) (k : V G l own cc nL dep lg ret Q n lo (fv G.2.2.1 μ id j kd :: st) μ) : V G l own cc nL dep lg ret Q pc lo (.ref (G.2.2.1 id) :: st) μ := by
  subst hn
  intro p e R s m args below meth c H locs cells slots Qf ls hC hH hL hF
  have hg : ∀ w ∈ u_ws C T N, w ∈ TT := fun w h => mTT (hin w h) (by obtain ⟨q, -, rfl⟩ := List.mem_map.mp h; unfold u_lay; split <;> rfl)
  exact va_get hC.1 hC.2.1 hC.2.2.2.2.1 hg hC.2.2.2.1 hC.2.2.2.2.2.1 hH.1 id (ce_obj G μ hs) hc j hj (hC.2.2.2.2.1 _ (mTT hlink rfl)) (fun x hx => by rw [hT] at hx; exact hx) (by rw [List.getElem?_mapIdx, hf]; rfl) hdg (k p e R s m args below meth c H locs cells slots Qf ls hC hH hL hF)
theorem R_put {ci j N : Nat} {C : String} {T : u_T} {ix id : Nat} {fs : List (Option (Option Nat))} {tyf : Nat → FieldType} (hc : classes[ci]? = some (C, T, N)) (hin : ∀ w ∈ u_ws C T N, w ∈ lw_tbl) (hty : ∀ k, k < N → parseFieldDescriptor (T k).2.2.1 = some (tyf k)) (hnm : ∀ a, a < N → ∀ b, b < N → a ≠ b → (T a).2.1 ≠ (T b).2.1) (hj : j < N) (hT : (T j).1 = C) (hlink : Cond.fieldLink own ix C (T j).2.1 (T j).2.2.1 ∈ lw_tbl) (hfin : (T j).2.2.2 = false) (hint : tyf j = .int) (hs : sh id = .inl (ci, fs)) (hf : fs[j]? = some none) {x : Int32} (hdg : decode cc pc = .ok (.putfield ix, 3)) (hn : pc + 3 = n) (k : V G l own cc nL dep lg ret Q n lo st (sti μ id j x)) : V G l own cc nL dep lg ret Q pc lo (.int x :: .ref (G.2.2.1 id) :: st) μ := by
  subst hn
  intro p e R s m args below meth c H locs cells slots Qf ls hC hH hL hF
  have hg : ∀ w ∈ u_ws C T N, w ∈ TT := fun w h => mTT (hin w h) (by obtain ⟨q, -, rfl⟩ := List.mem_map.mp h; unfold u_lay; split <;> rfl)
  refine va_put hC.1 hC.2.1 hC.2.2.2.2.1 hg tyf hty hnm hC.2.2.2.1 hC.2.2.2.2.2.1 hH.1 hH.2.1 hH.2.2 id (ce_obj G μ hs) hc j hj (hC.2.2.2.2.1 _ (mTT hlink rfl)) (fun x hx => by rw [hT] at hx; exact hx) hfin (ty := .int) (by rw [hty j hj, hint]) rfl rfl (by rw [List.length_mapIdx]; exact (List.getElem?_eq_some_iff.mp hf).1) hdg (fun H1 locs1 hP hD hS => ?_)
  rw [wl_setf G μ hs hf] at hP hD
  exact k p e R s m args below meth c H1 locs1 cells slots Qf ls hC ⟨hP, hD, hS⟩ hL hF
theorem R_putl {ci j N : Nat} {C : String} {T : u_T} {ix id : Nat} {fs : List (Option (Option Nat))} {tyf : Nat → FieldType} (hc : classes[ci]? = some (C, T, N)) (hin : ∀ w ∈ u_ws C T N, w ∈ lw_tbl) (hty : ∀ k, k < N → parseFieldDescriptor (T k).2.2.1 = some (tyf k)) (hnm : ∀ a, a < N → ∀ b, b < N → a ≠ b → (T a).2.1 ≠ (T b).2.1) (hj : j < N) (hT : (T j).1 = C) (hlink : Cond.fieldLink own ix C (T j).2.1 (T j).2.2.1 ∈ lw_tbl) (hfin : (T j).2.2.2 = false) (hint : tyf j = .long) (hs : sh id = .inl (ci, fs)) (hf : fs[j]? = some (some none)) (h1 : ∀ i, fs[i]? = some (some none) → i = j) {x : Int64} (hdg : decode cc pc = .ok (.putfield ix, 3)) (hn : pc + 3 = n) (k : V G l own cc nL dep lg ret Q n lo st (stl μ id x)) : V G l own cc nL dep lg ret Q pc lo (.long x :: .ref (G.2.2.1 id) :: st) μ := by
  subst hn
  intro p e R s m args below meth c H locs cells slots Qf ls hC hH hL hF
  have hg : ∀ w ∈ u_ws C T N, w ∈ TT := fun w h => mTT (hin w h) (by obtain ⟨q, -, rfl⟩ := List.mem_map.mp h; unfold u_lay; split <;> rfl)
  refine va_put hC.1 hC.2.1 hC.2.2.2.2.1 hg tyf hty hnm hC.2.2.2.1 hC.2.2.2.2.2.1 hH.1 hH.2.1 hH.2.2 id (ce_obj G μ hs) hc j hj (hC.2.2.2.2.1 _ (mTT hlink rfl)) (fun x hx => by rw [hT] at hx; exact hx) hfin (ty := .long) (by rw [hty j hj, hint]) rfl rfl (by rw [List.length_mapIdx]; exact (List.getElem?_eq_some_iff.mp hf).1) hdg (fun H1 locs1 hP hD hS => ?_)
  rw [wl_setl G μ hs hf h1] at hP hD
  exact k p e R s m args below meth c H1 locs1 cells slots Qf ls hC ⟨hP, hD, hS⟩ hL hF
theorem vn_of {i : Int32} {j N : Nat} (hi : i = nI j) (hj : j < N) (hN : N < 2 ^ 31) : vp_in i N ∧ i.toNatClampNeg = j := by
  subst hi
  exact ⟨nI_in hj hN, nI_clamp (Nat.lt_trans hj hN)⟩
theorem R_iald {id N j : Nat} {i : Int32} (hs : sh id = .inr (.inl (0, N))) (hi : i = nI j) (hj : j < N) (hdg : decode cc pc = .ok (.iaload, 1)) (hn : pc + 1 = n) (k : V G l own cc nL dep lg ret Q n lo (.int (μ.1 id j) :: st) μ) : V G l own cc nL dep lg ret Q pc lo (.int i :: .ref (G.2.2.1 id) :: st) μ := by
  subst hn
  intro p e R s m args below meth c H locs cells slots Qf ls hC hH hL hF
  obtain ⟨h1, h2⟩ := vn_of hi hj (sh_small hs)
  exact va_iald hC.1 hC.2.1 hC.2.2.2.2.2.1 hH.1 id 0 (ce_arr G μ hs) rfl h1 hdg (by rw [h2]; exact k p e R s m args below meth c H locs cells slots Qf ls hC hH hL hF)
theorem R_zald {id N j : Nat} {i : Int32} (hs : sh id = .inr (.inl (1, N))) (hi : i = nI j) (hj : j < N) (hdg : decode cc pc = .ok (.baload, 1)) (hn : pc + 1 = n) (k : V G l own cc nL dep lg ret Q n lo (.int (μ.1 id j) :: st) μ) : V G l own cc nL dep lg ret Q pc lo (.int i :: .ref (G.2.2.1 id) :: st) μ := by
  subst hn
  intro p e R s m args below meth c H locs cells slots Qf ls hC hH hL hF
  obtain ⟨h1, h2⟩ := vn_of hi hj (sh_small hs)
  exact va_zald hC.1 hC.2.1 hC.2.2.2.2.2.1 hH.1 id 1 (ce_arr G μ hs) rfl h1 hdg (by rw [h2]; exact k p e R s m args below meth c H locs cells slots Qf ls hC hH hL hF)
theorem R_iast {id N j : Nat} {i x : Int32} (hs : sh id = .inr (.inl (0, N))) (hi : i = nI j) (hj : j < N) (hdg : decode cc pc = .ok (.iastore, 1)) (hn : pc + 1 = n) (k : V G l own cc nL dep lg ret Q n lo st (sti μ id j x)) : V G l own cc nL dep lg ret Q pc lo (.int x :: .int i :: .ref (G.2.2.1 id) :: st) μ := by
  subst hn
  intro p e R s m args below meth c H locs cells slots Qf ls hC hH hL hF
  obtain ⟨h1, h2⟩ := vn_of hi hj (sh_small hs)
  refine va_iast hC.1 hC.2.1 hC.2.2.2.2.2.1 hH.1 hH.2.1 hH.2.2 id 0 (ce_arr G μ hs) rfl h1 hdg (fun H1 locs1 hP hD hS => ?_)
  rw [h2] at hP hD
  rw [wl_seti G μ hs] at hP hD
  exact k p e R s m args below meth c H1 locs1 cells slots Qf ls hC ⟨hP, hD, hS⟩ hL hF
theorem R_zast {id N j : Nat} {i x : Int32} (hs : sh id = .inr (.inl (1, N))) (hi : i = nI j) (hj : j < N) (hdg : decode cc pc = .ok (.bastore, 1)) (hn : pc + 1 = n) (k : V G l own cc nL dep lg ret Q n lo st (sti μ id j (vp_nar .boolean x))) : V G l own cc nL dep lg ret Q pc lo (.int x :: .int i :: .ref (G.2.2.1 id) :: st) μ := by
  subst hn
  intro p e R s m args below meth c H locs cells slots Qf ls hC hH hL hF
  obtain ⟨h1, h2⟩ := vn_of hi hj (sh_small hs)
  refine va_zast hC.1 hC.2.1 hC.2.2.2.2.2.1 hH.1 hH.2.1 hH.2.2 id 1 (ce_arr G μ hs) rfl h1 hdg (fun H1 locs1 hP hD hS => ?_)
  rw [h2] at hP hD
  rw [wl_seti G μ hs] at hP hD
  exact k p e R s m args below meth c H1 locs1 cells slots Qf ls hC ⟨hP, hD, hS⟩ hL hF
theorem R_aald {id j r : Nat} {ids : List Nat} {i : Int32} (hid : id < NC) (hs : sh id = .inr (.inr ids)) (hi : i = nI j) (hr : ids[j]? = some r) (hdg : decode cc pc = .ok (.aaload, 1)) (hn : pc + 1 = n) (k : V G l own cc nL dep lg ret Q n lo (.ref (G.2.2.1 r) :: st) μ) : V G l own cc nL dep lg ret Q pc lo (.int i :: .ref (G.2.2.1 id) :: st) μ := by
  subst hn
  intro p e R s m args below meth c H locs cells slots Qf ls hC hH hL hF
  have hw : (wl G μ)[id]? = some (G.2.2.1 id, .inl (G.2.1.2.2, ids.length, .inr (.inr (.inr (.inr fun k => (ids[k]?).map G.2.2.1))))) := by rw [wl_get G μ hid, hs]; rfl
  have hlen : ids.length < 2 ^ 31 := by
    have H : ∀ k, k < NC → (match sh k with | .inr (.inr q) => decide (q.length < 1000) | _ => true) = true := by decide +kernel
    have h1 := H id hid
    rw [hs] at h1
    have h2 : ids.length < 1000 := of_decide_eq_true h1
    exact Nat.lt_trans h2 (by decide)
  obtain ⟨h1, h2⟩ := vn_of hi (List.getElem?_eq_some_iff.mp hr).1 hlen
  refine va_aldq hC.1 hC.2.1 hC.2.2.2.2.2.1 hH.1 id 2 hw rfl h1 hdg ?_
  rw [h2]
  show W p l e R s m args below meth c H locs cells slots Qf (F0 m (pc + 1) ls (va_rf ((ids[j]?).map G.2.2.1) :: st))
  rw [hr]
  exact k p e R s m args below meth c H locs cells slots Qf ls hC hH hL hF
theorem R_alen {id N : Nat} (hs : sh id = .inr (.inl (0, N))) (hdg : decode cc pc = .ok (.arraylength, 1)) (hn : pc + 1 = n) (k : V G l own cc nL dep lg ret Q n lo (.int (nI N) :: st) μ) : V G l own cc nL dep lg ret Q pc lo (.ref (G.2.2.1 id) :: st) μ := by
  subst hn
  intro p e R s m args below meth c H locs cells slots Qf ls hC hH hL hF
  exact va_alen hC.1 hC.2.1 hC.2.2.2.2.2.1 hH.1 id 0 (ce_arr G μ hs) rfl rfl hdg (k p e R s m args below meth c H locs cells slots Qf ls hC hH hL hF)
/-! arrays that are only read -/
theorem R_rld {b L j : Nat} {xs : Nat → Int32} {i : Int32} (hq : (b, L, xs) ∈ G.2.2.2) (hL31 : L < 2 ^ 31) (hi : i = nI j) (hj : j < L) (hdg : decode cc pc = .ok (.iaload, 1)) (hn : pc + 1 = n) (k : V G l own cc nL dep lg ret Q n lo (.int (xs j) :: st) μ) : V G l own cc nL dep lg ret Q pc lo (.int i :: .ref b :: st) μ := by
  subst hn
  intro p e R s m args below meth c H locs cells slots Qf ls hC hH hL hF
  obtain ⟨h1, h2⟩ := vn_of hi hj hL31
  obtain ⟨hX, hbl, hbA⟩ := hC.2.2.2.2.2.2.1.1 _ hq
  exact va_sld hC.1 hC.2.1 hX hbl hbA hH.2.2 h1 hdg (by rw [h2]; exact k p e R s m args below meth c H locs cells slots Qf ls hC hH hL hF)
theorem R_rlen {b L : Nat} {xs : Nat → Int32} (hq : (b, L, xs) ∈ G.2.2.2) (hdg : decode cc pc = .ok (.arraylength, 1)) (hn : pc + 1 = n) (k : V G l own cc nL dep lg ret Q n lo (.int (nI L) :: st) μ) : V G l own cc nL dep lg ret Q pc lo (.ref b :: st) μ := by
  subst hn
  intro p e R s m args below meth c H locs cells slots Qf ls hC hH hL hF
  obtain ⟨hX, hbl, hbA⟩ := hC.2.2.2.2.2.2.1.1 _ hq
  exact va_slen hC.1 hC.2.1 hX hbl hbA hH.2.2 hdg (k p e R s m args below meth c H locs cells slots Qf ls hC hH hL hF)
theorem R_gets {ix : Nat} (hlink : Cond.fieldLink own ix "EelLocks" "FACTORIALS" "[I" ∈ lw_tbl) (hdg : decode cc pc = .ok (.getstatic ix, 3)) (hn : pc + 3 = n) (k : ∀ fa : Nat, (fa, 7, fac) ∈ G.2.2.2 → V G l own cc nL dep lg ret Q n lo (.ref fa :: st) μ) : V G l own cc nL dep lg ret Q pc lo st μ := by
  subst hn
  intro p e R s m args below meth c H locs cells slots Qf ls hC hH hL hF
  obtain ⟨fa, hfa, hZ⟩ := hC.2.2.2.2.2.2.1.2.1
  exact va_gets hC.1 hC.2.1 hZ hH.2.2 hC.2.2.2.1 (hC.2.2.2.2.1 _ (mTT hlink rfl)) (fun x h => h) hdg (k fa hfa p e R s m args below meth c H locs cells slots Qf ls hC hH hL hF)
theorem R_getsN (hown : own = RX3) (hdg : decode cc pc = .ok (.getstatic 48, 3)) (hn : pc + 3 = n) (k : ∀ fa : Nat, (fa, 7, fac) ∈ G.2.2.2 → V G l own cc nL dep lg ret Q n lo (.ref fa :: st) μ) : V G l own cc nL dep lg ret Q pc lo st μ := by
  subst hn
  intro p e R s m args below meth c H locs cells slots Qf ls hC hH hL hF
  subst hown
  obtain ⟨fa, hfa, hZ⟩ := hC.2.2.2.2.2.2.1.2.1
  exact va_getsN hC.1 hC.2.1 hZ hH.2.2 hC.2.2.2.1 (va_Nw.use rfl hC.2.2.2.2.2.2.1.2.2.2) (fun x h => h) hdg (k fa hfa p e R s m args below meth c H locs cells slots Qf ls hC hH hL hF)
/-! Math and arraycopy -/
theorem R_max {ix : Nat} {x y : Int32} (hlink : Cond.methodLink own ix Lib.Math.max.name ∈ lw_tbl) (hstat : Cond.static Lib.Math.max.name ∈ lw_tbl) (hini : Cond.initialized "java/lang/Math" ∈ lw_tbl) (hcode : Cond.code Lib.Math.max.name Lib.Math.max.code 2 (some .int) ∈ lw_tbl) (hd : 1 ≤ dep) (hst : (st.map fun v => v.category).sum ≤ 8) (hdg : decode cc pc = .ok (.invokestatic ix, 3)) (hn : pc + 3 = n) (k : V G l own cc nL dep lg ret Q n lo (.int (if x < y then y else x) :: st) μ) : V G l own cc nL dep lg ret Q pc lo (.int y :: .int x :: st) μ := by
  subst hn
  intro p e R s m args below meth c H locs cells slots Qf ls hC hH hL hF
  have hfr := hC.2.2.2.2.2.2.2.1
  have hlo := hC.2.2.2.2.2.2.2.2.1
  exact va_mmax hC.1 hC.2.1 (hC.2.2.1.trans hL.1.symm) hC.2.2.2.1 (hC.2.2.2.2.1 _ (mTT hlink rfl)) (hC.2.2.2.2.1 _ (mTT hstat rfl)) (hC.2.2.2.2.1 _ (mTT hini rfl)) (hC.2.2.2.2.1 _ (mTT hcode rfl)) (Nat.le_trans hd hfr) (by omega) hC.2.2.2.2.2.2.2.2.2.1 hC.2.2.2.2.2.2.2.2.2.2 hdg (k p e R s m args below meth c H locs cells slots Qf ls hC hH hL hF)
theorem R_abs {ix : Nat} {x : Int32} (hlink : Cond.methodLink own ix Lib.Math.abs.name ∈ lw_tbl) (hstat : Cond.static Lib.Math.abs.name ∈ lw_tbl) (hini : Cond.initialized "java/lang/Math" ∈ lw_tbl) (hcode : Cond.code Lib.Math.abs.name Lib.Math.abs.code 1 (some .int) ∈ lw_tbl) (hd : 1 ≤ dep) (hst : (st.map fun v => v.category).sum ≤ 8) (hdg : decode cc pc = .ok (.invokestatic ix, 3)) (hn : pc + 3 = n) (k : V G l own cc nL dep lg ret Q n lo (.int (if 0 ≤ x then x else 0 - x) :: st) μ) : V G l own cc nL dep lg ret Q pc lo (.int x :: st) μ := by
  subst hn
  intro p e R s m args below meth c H locs cells slots Qf ls hC hH hL hF
  have hfr := hC.2.2.2.2.2.2.2.1
  have hlo := hC.2.2.2.2.2.2.2.2.1
  exact va_mabs hC.1 hC.2.1 (hC.2.2.1.trans hL.1.symm) hC.2.2.2.1 (hC.2.2.2.2.1 _ (mTT hlink rfl)) (hC.2.2.2.2.1 _ (mTT hstat rfl)) (hC.2.2.2.2.1 _ (mTT hini rfl)) (hC.2.2.2.2.1 _ (mTT hcode rfl)) (Nat.le_trans hd hfr) (by omega) hC.2.2.2.2.2.2.2.2.2.1 hC.2.2.2.2.2.2.2.2.2.2 hdg (k p e R s m args below meth c H locs cells slots Qf ls hC hH hL hF)
theorem R_copy {ix id0 id1 N j : Nat} (hlink : Cond.methodLink own ix arraycopyName ∈ lw_tbl) (hnat : Cond.native arraycopyName ∈ lw_tbl) (hstat : Cond.static arraycopyName ∈ lw_tbl) (hini : Cond.initialized "java/lang/System" ∈ lw_tbl) (hs0 : sh id0 = .inr (.inl (0, N))) (hs1 : sh id1 = .inr (.inl (0, N))) {x : Int32} (hx : x = nI j) (hj : j ≤ N) (hd : 1 ≤ dep) (hst : (st.map fun v => v.category).sum ≤ 8) (hdg : decode cc pc = .ok (.invokestatic ix, 3)) (hn : pc + 3 = n) (k : V G l own cc nL dep lg ret Q n lo st (sta μ id1 (va_cpy (μ.1 id0) (μ.1 id1) 0 0 j))) : V G l own cc nL dep lg ret Q pc lo (.int x :: .int 0 :: .ref (G.2.2.1 id1) :: .int 0 :: .ref (G.2.2.1 id0) :: st) μ := by
  subst hn
  intro p e R s m args below meth c H locs cells slots Qf ls hC hH hL hF
  have hfr := hC.2.2.2.2.2.2.2.1
  have hlo := hC.2.2.2.2.2.2.2.2.1
  have hNN := sh_small hs0
  subst hx
  have hcl : (nI j).toNatClampNeg = j := nI_clamp (by omega)
  have hnat2 : nativeFrameWords "java/lang/System" "arraycopy" 5 + 11 ≤ 26 := by decide
  refine va_copyi hC.1 hC.2.1 (hC.2.2.1.trans hL.1.symm) hC.2.2.2.1 (hC.2.2.2.2.1 _ (mTT hlink rfl)) (hC.2.2.2.2.1 _ (mTT hnat rfl)) (hC.2.2.2.2.1 _ (mTT hstat rfl)) (hC.2.2.2.2.1 _ (mTT hini rfl)) hC.2.2.2.2.2.1 hH.1 hH.2.1 hH.2.2 id0 id1 0 0 (ty := .int) (ce_arr G μ hs0) (ce_arr G μ hs1) rfl rfl rfl (by decide) (by decide) (nI_pos (by omega)) (by rw [hcl]; show 0 + j ≤ N; omega) (by rw [hcl]; show 0 + j ≤ N; omega) (fun _ _ => rfl) (Nat.le_trans hd hfr) (by omega) hdg (fun H1 locs1 hP hD hS => ?_)
  rw [hcl] at hP hD
  rw [wl_seta G μ hs1] at hP hD
  exact k p e R s m args below meth c H1 locs1 cells slots Qf ls hC ⟨hP, hD, hS⟩ hL hF
end VR
end
section
section VC
variable {G : Gm} {l : Launch} {own : String} {cc : ByteArray} {nL dep : Nat} {lg : Bool} {ret : Option FieldType} {Q : Option Value → Mem → Prop} {pc n : Nat} {lo : List (Option Value)} {st : List Value} {μ : Mem}
theorem Gx.moved {s U : State} {H : Heap} (hvm : s.vm.Alike U.vm) (hN : va_Nw nM s → va_Nw nM U) (hF : va_Nw nF s → va_Nw nF U) (h : Gx G s H) : Gx G U H :=
  ⟨fun q hq => ⟨va_X.moved hvm (h.1 q hq).1, (h.1 q hq).2⟩, by obtain ⟨fa, h1, h2⟩ := h.2.1; exact ⟨fa, h1, va_Z.moved hvm h2⟩, hN h.2.2.1, hF h.2.2.2⟩
theorem Gx.kept {s : State} {H H1 : Heap} (h : Gx G s H) (hz : H.size ≤ H1.size) (hq : ∀ a : Nat, a < H.size → ¬ AA G a → H1[a]? = H[a]?) : Gx G s H1 :=
  ⟨fun q hm => ⟨va_X.kept (h.1 q hm).1 (hq _ (h.1 q hm).2.1 (h.1 q hm).2.2), Nat.lt_of_lt_of_le (h.1 q hm).2.1 hz, (h.1 q hm).2.2⟩, by obtain ⟨fa, h1, h2⟩ := h.2.1; exact ⟨fa, h1, va_Z.kept h2 hq⟩, h.2.2⟩
theorem wd_blind (As : List Value) : FrameBlind (va_Pc As (Wd G μ)) := fun a U g mk q =>
  ⟨q.1, q.2.1, va_K.moved (u := U) (U := U.calling g mk a) (Vm.Alike.refl U.vm) q.2.2.1, q.2.2.2.1, Gx.moved (s := U) (U := U.calling g mk a) (Vm.Alike.refl U.vm) (fun h => va_Nw.same rfl rfl h) (fun h => va_Nw.same rfl rfl h) q.2.2.2.2⟩
theorem wd_pre {s U : State} {H : Heap} {locs : List Loc} (hK : va_K G.1 classes (tys G) s) (hx : Gx G s s.heap) (hH : Hp G s H locs μ) (hU : U.heap = H) (hW : s.WarmedH U.vm) : Wd G μ U := by
  refine ⟨by rw [hU]; exact hH.1, va_K.moved hW.alike hK, hH.2.1, ?_⟩
  rw [hU]
  exact Gx.moved hW.alike (fun h => va_Nw.warmM hW h) (fun h => va_Nw.warmF hW h) (hx.kept hH.2.2.1 hH.2.2.2.1)
theorem lm_entry {As : List Value} {k : Nat} (hc : As.all (fun v => v.category == 1) = true) (h : (lg_sl As).length ≤ nL) : lm false ((lg_sl As ++ List.replicate (nL - (lg_sl As).length) Slot.unset).toArray) nL (As.map some ++ List.replicate k none) := by
  have hl := lv_entry As (n := nL) h
  have key : ∀ (As : List Value) (b i : Nat) (v : Value), As.all (fun v => v.category == 1) = true → As[i]? = some v → (b + i, v) ∈ lv_args b As ∧ v.category = 1 := by
    intro As
    induction As with
    | nil => intro b i v _ h; simp at h
    | cons a t ih =>
      intro b i v hc h
      obtain ⟨h1, h2⟩ : a.category = 1 ∧ t.all (fun v => v.category == 1) = true := by simpa using hc
      cases i with
      | zero =>
        have : a = v := by simpa using h
        subst this
        exact ⟨List.mem_cons_self, h1⟩
      | succ i =>
        have h3 := ih (b + 1) i v h2 (by simpa using h)
        have e : b + (i + 1) = b + 1 + i := by omega
        refine ⟨?_, h3.2⟩
        rw [e]
        show _ ∈ (b, a) :: lv_args (if a.category = 2 then b + 2 else b + 1) t
        rw [h1]
        exact List.mem_cons_of_mem _ h3.1
  refine ⟨hl.1, hl.2.1, fun i v hi => ?_⟩
  have hA : As[i]? = some v := by
    rcases Nat.lt_or_ge i As.length with q | q
    · rw [List.getElem?_append_left (by rw [List.length_map]; exact q), List.getElem?_map] at hi
      cases hh : As[i]? with
      | none => rw [hh] at hi; simp at hi
      | some w => rw [hh] at hi; simpa using hi
    · rw [List.getElem?_append_right (by rw [List.length_map]; exact q), List.getElem?_replicate] at hi
      split at hi <;> simp at hi
  have h3 := key As 0 i v hc hA
  rw [Nat.zero_add] at h3
  exact ⟨hl.2.2 _ h3.1, fun _ => h3.2⟩
theorem Ct.ofLm {y : MethodName} {As : List Value} (hy : plainName y.cls = true) (hlm : lm lg ((lg_sl As ++ List.replicate (nL - (lg_sl As).length) Slot.unset).toArray) nL lo) (k : V G l y.cls cc nL dep lg ret Q 0 lo [] μ) : Ct G l dep y cc nL ret As μ Q := by
  refine Met.ofW (cc := cc) (maxL := nL) (ret := ret) hy rfl ?_
  intro p e s m args below meth c s₁ B hml hv
  obtain ⟨rfl, hP, hK, hD, hx⟩ := hv
  have hts : ∀ w ∈ Cond.code y cc nL ret :: TT, w.before As.toArray s = true := atoms_spec (ws := Cond.code y cc nL ret :: TT) B.pre
  have hr := B.returns
  have hlk := B.notSynchronized
  rw [lg_entry_eq]
  refine k p e _ s m As.toArray below meth c s.heap [] 0 0 _ _ ⟨B.exec, B.bytes, hml, findClass_of_methodNamed B.named, fun w h => hts w (List.mem_cons_of_mem _ h), hK, hx, Nat.le_refl _, Nat.le_refl _, Nat.le_refl _, Nat.le_refl _⟩ ⟨hP, hD, va_S.rf⟩ hlm ?_
  intro r μ' H' locs' ls' pc' hq hH' hrok
  have hQ : ∀ t : State, t.heap = H' → s.WarmedH t.vm → ((∃ (r' : Option Value) (μ' : Mem), Outcome.returned r = .returned r' ∧ Q r' μ' ∧ va_P G.1 classes (wl G μ') t.heap ∧ va_D (AA G) (wl G μ')) ∧ va_F (AA G) s t) := fun t ht _ => ⟨⟨r, μ', rfl, hq, by rw [ht]; exact hH'.1, hH'.2.1⟩, hH'.2.2.F ht⟩
  rcases hrok with ⟨x, rfl, hd, ty, he, hn⟩ | ⟨x, rfl, hd, he⟩ | ⟨a, cn, rfl, hd, he⟩ | ⟨rfl, hd, he⟩
  · exact W.zret B.exec B.bytes (hr.trans he) hn hQ hH'.2.2.2.2 hd hlk
  · exact W.lret B.exec B.bytes (hr.trans he) hQ hH'.2.2.2.2 hd hlk
  · exact W.aret B.exec B.bytes (hr.trans he) (Or.inl ⟨cn, rfl⟩) (Or.inr ⟨a, rfl⟩) hQ hH'.2.2.2.2 hd hlk
  · exact W.vret B.exec B.bytes (hr.trans he) hQ hH'.2.2.2.2 hd hlk
theorem Ct.of {y : MethodName} {As : List Value} (j : Nat) (hy : plainName y.cls = true) (hc : As.all (fun v => v.category == 1) = true) (h : (lg_sl As).length ≤ nL) (k : V G l y.cls cc nL dep false ret Q 0 (As.map some ++ List.replicate j none) [] μ) : Ct G l dep y cc nL ret As μ Q := Ct.ofLm hy (lm_entry hc h) k
theorem Ct.mono {y : MethodName} {As : List Value} {Q' : Option Value → Mem → Prop} (hQ : ∀ r μ', Q' r μ' → Q r μ') (h : Ct G l dep y cc nL ret As μ Q') : Ct G l dep y cc nL ret As μ Q := by
  intro p e ha hc hk s m args below hf hfit happ hpre
  obtain ⟨t, o, h1, h2, h3, h4⟩ := h p e ha hc hk s m args below hf hfit happ hpre
  obtain ⟨⟨⟨r, μ', e1, q, hP, hD⟩, hF⟩, hL⟩ := h4
  exact ⟨t, o, h1, h2, h3, ⟨⟨r, μ', e1, hQ _ _ q, hP, hD⟩, hF⟩, hL⟩
theorem va_callg {p : Program} {e : Env} {R : Room} {s : State} {m : MethodId} {args : Array Value} {below : List Frame} {meth : Method} {c : Code} {H : Heap} {locs : List Loc} {cells slots : Nat} {Qf : State → Prop} {ls : Array Slot} {st0 rest : List Value} {Qy : Option Value → Mem → Prop}
    (hr : va_Run p l e R s m args below meth c H locs cells slots 0 0 (F0 m pc ls st0) rest (fun st oc t => (∃ (r : Option Value) (μ' : Mem), oc = .returned r ∧ Qy r μ' ∧ va_P G.1 classes (wl G μ') t.heap ∧ va_D (AA G) (wl G μ')) ∧ va_F (AA G) st t) (AA G)) (hS : va_S (AA G) s.heap H locs)
    (kk : ∀ (r : Option Value) (μ' : Mem) (H1 : Heap) (locs1 : List Loc), Qy r μ' → Hp G s H1 locs1 μ' → W p l e R s m args below meth c H1 locs1 cells slots Qf (F0 m (pc + 3) ls (r.toList ++ rest))) : W p l e R s m args below meth c H locs cells slots Qf (F0 m pc ls st0) := by
  intro T hT X
  obtain ⟨v, st₀, t, T', L, h0, X', hL, e1, e2, ⟨⟨r, μ', hv, hp, hP, hD⟩, hz, hk⟩, st⟩ := hr T hT X
  cases hv
  rw [h0] at hz hk
  obtain ⟨t2, a1, b1⟩ := kk v μ' T'.heap (locs ++ L) hp ⟨by rw [e1]; exact hP, hD, Nat.le_trans hS.1 (by rw [e1]; exact hz), fun q h1 h2 => by rw [e1, hk q (Nat.lt_of_lt_of_le h1 hS.1) h2]; exact hS.2.1 q h1 h2, fun q hq => by
      rcases List.mem_append.mp hq with h | h
      · exact hS.2.2 q h
      · exact hL q h⟩ T' rfl X'
  exact ⟨t2, st t2 a1, b1⟩
def okY (y : MethodName) (np : Nat) : Prop := y.cls ≠ "java/lang/invoke/MethodHandle" ∧ y.cls ≠ "java/lang/invoke/VarHandle" ∧ (parseMethodDescriptor y.desc).map (fun d => d.parameters.length) = some np
theorem R_callV {dep' : Nat} {y : MethodName} {cy : ByteArray} {mL : Nat} {ry : Option FieldType} {As : List Value} {Qy : Option Value → Mem → Prop} {ci : Nat} {C : String} {TC : u_T} {N id ix np : Nat} {fs : List (Option (Option Nat))} {rest st0 : List Value}
    (hct : Ct G l dep' y cy mL ry (.ref (G.2.2.1 id) :: As) μ Qy) (hd : dep' < dep) (hmL : mL ≤ 15) (hyC : y.cls = C) (tM : Cond.methodLink own ix y ∈ lw_tbl) (tI : Cond.instanceMethod y ∈ lw_tbl) (tS : Cond.selects C y y ∈ lw_tbl) (tN : Cond.initialized C ∈ lw_tbl) (tC : Cond.code y cy mL ry ∈ lw_tbl) (hy : okY y np) (hnp : As.length = np)
    (hcl : classes[ci]? = some (C, TC, N)) (hs : sh id = .inl (ci, fs)) (hst0 : st0 = As.reverse ++ .ref (G.2.2.1 id) :: rest) (hrest : (rest.map fun v => v.category).sum ≤ 8) (hdg : decode cc pc = .ok (.invokevirtual ix, 3)) (hn : pc + 3 = n)
    (k : ∀ (r : Option Value) (μ' : Mem), Qy r μ' → V G l own cc nL dep lg ret Q n lo (r.toList ++ rest) μ') : V G l own cc nL dep lg ret Q pc lo st0 μ := by
  subst hn
  intro p e R s m args below meth c H locs cells slots Qf ls hC hH hL hF
  have hC0 := hC
  obtain ⟨hx, hb, hml, hown, hts, hK, hG, hfr, hlo, hce, hsl⟩ := hC0
  refine va_callg (va_runV (As := As) (rest := rest) (n := np) ⟨hx, hb, hml, hown, hts⟩ hct ⟨callB_of np hts (good_cTT tC) rfl rfl rfl (by rw [hyC]; exact hts _ (mTT tN rfl)) (hts _ (mTT tM rfl)) hy ⟨by show dep' + 1 ≤ R.frames; omega, by show 8 + (mL + 11) + 34 * dep' ≤ R.locals; omega⟩, hts _ (mTT tI rfl), hts _ (mTT tS rfl)⟩ ⟨wd_blind _, va_recv hK hH.1 hcl (ce_obj G μ hs), fun U hU hW => ⟨rfl, wd_pre hK hG hH hU hW⟩⟩ rfl hnp (hL.1.trans (by first | rfl | exact hml)) hst0 (lv_room hrest) hdg ⟨hce, hsl⟩) hH.2.2 (fun r μ' H1 locs1 hq hH1 => k r μ' hq p e R s m args below meth c H1 locs1 cells slots Qf ls hC hH1 hL hF)
theorem R_callS {dep' : Nat} {y : MethodName} {cy : ByteArray} {mL : Nat} {ry : Option FieldType} {As : List Value} {Qy : Option Value → Mem → Prop} {ix np : Nat} {rest st0 : List Value}
    (hct : Ct G l dep' y cy mL ry As μ Qy) (hd : dep' < dep) (hmL : mL ≤ 15) (tM : Cond.methodLink own ix y ∈ lw_tbl) (tT : Cond.static y ∈ lw_tbl) (tN : Cond.initialized y.cls ∈ lw_tbl) (tC : Cond.code y cy mL ry ∈ lw_tbl) (hy : okY y np) (hnp : As.length = np)
    (hst0 : st0 = As.reverse ++ rest) (hrest : (rest.map fun v => v.category).sum ≤ 8) (hdg : decode cc pc = .ok (.invokestatic ix, 3)) (hn : pc + 3 = n)
    (k : ∀ (r : Option Value) (μ' : Mem), Qy r μ' → V G l own cc nL dep lg ret Q n lo (r.toList ++ rest) μ') : V G l own cc nL dep lg ret Q pc lo st0 μ := by
  subst hn
  intro p e R s m args below meth c H locs cells slots Qf ls hC hH hL hF
  have hC0 := hC
  obtain ⟨hx, hb, hml, hown, hts, hK, hG, hfr, hlo, hce, hsl⟩ := hC0
  refine va_callg (va_runS (As := As) (rest := rest) (n := np) ⟨hx, hb, hml, hown, hts⟩ hct ⟨callB_of np hts (good_cTT tC) rfl rfl rfl (hts _ (mTT tN rfl)) (hts _ (mTT tM rfl)) hy ⟨by show dep' + 1 ≤ R.frames; omega, by show 8 + (mL + 11) + 34 * dep' ≤ R.locals; omega⟩, hts _ (mTT tT rfl)⟩ ⟨wd_blind _, fun U hU hW => ⟨rfl, wd_pre hK hG hH hU hW⟩⟩ rfl hnp (hL.1.trans (by first | rfl | exact hml)) hst0 (lv_room hrest) hdg ⟨hce, hsl⟩) hH.2.2 (fun r μ' H1 locs1 hq hH1 => k r μ' hq p e R s m args below meth c H1 locs1 cells slots Qf ls hC hH1 hL hF)
/-- the one call of a nest mate's static method: EelLocks.power out of Guesses -/
theorem R_callN {dep' : Nat} {cy : ByteArray} {mL : Nat} {ry : Option FieldType} {As : List Value} {Qy : Option Value → Mem → Prop} {np : Nat} {rest st0 : List Value} (hown0 : own = RX2)
    (hct : Ct G l dep' yX7_power cy mL ry As μ Qy) (hd : dep' < dep) (hmL : mL ≤ 15) (tT : Cond.static yX7_power ∈ lw_tbl) (tN : Cond.initialized RX7 ∈ lw_tbl) (tC : Cond.code yX7_power cy mL ry ∈ lw_tbl) (hy : okY yX7_power np) (hnp : As.length = np)
    (hst0 : st0 = As.reverse ++ rest) (hrest : (rest.map fun v => v.category).sum ≤ 8) (hdg : decode cc pc = .ok (.invokestatic 91, 3)) (hn : pc + 3 = n)
    (k : ∀ (r : Option Value) (μ' : Mem), Qy r μ' → V G l own cc nL dep lg ret Q n lo (r.toList ++ rest) μ') : V G l own cc nL dep lg ret Q pc lo st0 μ := by
  subst hn
  subst hown0
  intro p e R s m args below meth c H locs cells slots Qf ls hC hH hL hF
  have hC0 := hC
  obtain ⟨hx, hb, hml, hown, hts, hK, hG, hfr, hlo, hce, hsl⟩ := hC0
  refine va_callg (va_runSN (As := As) (rest := rest) (n := np) ⟨hx, hb, hml, hown, hts⟩ hct ⟨va_cnB np hts (good_cTT tC) rfl rfl rfl hG.2.2.1 (hts _ (mTT tN rfl)) hy ⟨by show dep' + 1 ≤ R.frames; omega, by show 8 + (mL + 11) + 34 * dep' ≤ R.locals; omega⟩, hts _ (mTT tT rfl), trivial⟩ ⟨wd_blind _, fun U hU hW => ⟨rfl, wd_pre hK hG hH hU hW⟩⟩ rfl hnp (hL.1.trans (by first | rfl | exact hml)) hst0 (lv_room hrest) hdg ⟨hce, hsl⟩) hH.2.2 (fun r μ' H1 locs1 hq hH1 => k r μ' hq p e R s m args below meth c H1 locs1 cells slots Qf ls hC hH1 hL hF)
end VC
end
section
section VC
variable {G : Gm} {l : Launch} {cc : ByteArray} {nL dep : Nat} {lg : Bool} {ret : Option FieldType} {Q : Option Value → Mem → Prop} {pc n : Nat} {lo : List (Option Value)} {st : List Value} {μ : Mem}
theorem one_long (N j : Nat) (fs : List (Option (Option Nat))) (hN : fs.length = N) (h : (List.range N).all (fun i => decide (i = j) || decide (fs[i]? ≠ some (some none))) = true) : ∀ i, fs[i]? = some (some none) → i = j := by
  intro i hi
  have hl : i < N := by rw [← hN]; exact (List.getElem?_eq_some_iff.mp hi).1
  have := List.all_eq_true.mp h i (List.mem_range.mpr hl)
  simp [hi] at this
  exact this
theorem gf_X6_9 (hdg : decode cc pc = .ok (.getfield 9, 3)) (hn : pc + 3 = n) (k : V G l RX6 cc nL dep lg ret Q n lo (.ref (G.2.2.1 2) :: st) μ) : V G l RX6 cc nL dep lg ret Q pc lo (.ref (G.2.2.1 1) :: st) μ := R_get (ci := 6) (j := 0) rfl inX6 (by decide) rfl tF_RX6_9 sh_1 rfl hdg hn k
theorem gf_X1_43 (hdg : decode cc pc = .ok (.getfield 43, 3)) (hn : pc + 3 = n) (k : V G l RX1 cc nL dep lg ret Q n lo (.ref (G.2.2.1 2) :: st) μ) : V G l RX1 cc nL dep lg ret Q pc lo (.ref (G.2.2.1 1) :: st) μ := R_get (ci := 6) (j := 0) rfl inX6 (by decide) rfl tF_RX1_43 sh_1 rfl hdg hn k
theorem gf_X6_15 (hdg : decode cc pc = .ok (.getfield 15, 3)) (hn : pc + 3 = n) (k : V G l RX6 cc nL dep lg ret Q n lo (.int (μ.1 1 1) :: st) μ) : V G l RX6 cc nL dep lg ret Q pc lo (.ref (G.2.2.1 1) :: st) μ := R_get (ci := 6) (j := 1) rfl inX6 (by decide) rfl tF_RX6_15 sh_1 rfl hdg hn k
theorem pf_X6_15 {x : Int32} (hdg : decode cc pc = .ok (.putfield 15, 3)) (hn : pc + 3 = n) (k : V G l RX6 cc nL dep lg ret Q n lo st (sti μ 1 1 x)) : V G l RX6 cc nL dep lg ret Q pc lo (.int x :: .ref (G.2.2.1 1) :: st) μ := R_put (ci := 6) (j := 1) rfl inX6 tyX6_ok nmX6 (by decide) rfl tF_RX6_15 rfl rfl sh_1 rfl hdg hn k
theorem gf_X7_51 (hdg : decode cc pc = .ok (.getfield 51, 3)) (hn : pc + 3 = n) (k : V G l RX7 cc nL dep lg ret Q n lo (.int (μ.1 1 1) :: st) μ) : V G l RX7 cc nL dep lg ret Q pc lo (.ref (G.2.2.1 1) :: st) μ := R_get (ci := 6) (j := 1) rfl inX6 (by decide) rfl tF_RX7_51 sh_1 rfl hdg hn k
theorem pf_X7_51 {x : Int32} (hdg : decode cc pc = .ok (.putfield 51, 3)) (hn : pc + 3 = n) (k : V G l RX7 cc nL dep lg ret Q n lo st (sti μ 1 1 x)) : V G l RX7 cc nL dep lg ret Q pc lo (.int x :: .ref (G.2.2.1 1) :: st) μ := R_put (ci := 6) (j := 1) rfl inX6 tyX6_ok nmX6 (by decide) rfl tF_RX7_51 rfl rfl sh_1 rfl hdg hn k
theorem gf_X1_38 (hdg : decode cc pc = .ok (.getfield 38, 3)) (hn : pc + 3 = n) (k : V G l RX1 cc nL dep lg ret Q n lo (.int (μ.1 1 1) :: st) μ) : V G l RX1 cc nL dep lg ret Q pc lo (.ref (G.2.2.1 1) :: st) μ := R_get (ci := 6) (j := 1) rfl inX6 (by decide) rfl tF_RX1_38 sh_1 rfl hdg hn k
theorem pf_X1_38 {x : Int32} (hdg : decode cc pc = .ok (.putfield 38, 3)) (hn : pc + 3 = n) (k : V G l RX1 cc nL dep lg ret Q n lo st (sti μ 1 1 x)) : V G l RX1 cc nL dep lg ret Q pc lo (.int x :: .ref (G.2.2.1 1) :: st) μ := R_put (ci := 6) (j := 1) rfl inX6 tyX6_ok nmX6 (by decide) rfl tF_RX1_38 rfl rfl sh_1 rfl hdg hn k
theorem gf_X5_9 {id : Nat} (hs : StB id) (hdg : decode cc pc = .ok (.getfield 9, 3)) (hn : pc + 3 = n) (k : V G l RX5 cc nL dep lg ret Q n lo (.ref (G.2.2.1 (id + 1)) :: st) μ) : V G l RX5 cc nL dep lg ret Q pc lo (.ref (G.2.2.1 id) :: st) μ := R_get (ci := 5) (j := 0) rfl inX5 (by decide) rfl tF_RX5_9 hs.1 rfl hdg hn k
theorem gf_X1_56 {id : Nat} (hs : StB id) (hdg : decode cc pc = .ok (.getfield 56, 3)) (hn : pc + 3 = n) (k : V G l RX1 cc nL dep lg ret Q n lo (.ref (G.2.2.1 (id + 1)) :: st) μ) : V G l RX1 cc nL dep lg ret Q pc lo (.ref (G.2.2.1 id) :: st) μ := R_get (ci := 5) (j := 0) rfl inX5 (by decide) rfl tF_RX1_56 hs.1 rfl hdg hn k
theorem gf_X3_51 {id : Nat} (hs : StB id) (hdg : decode cc pc = .ok (.getfield 51, 3)) (hn : pc + 3 = n) (k : V G l RX3 cc nL dep lg ret Q n lo (.ref (G.2.2.1 (id + 1)) :: st) μ) : V G l RX3 cc nL dep lg ret Q pc lo (.ref (G.2.2.1 id) :: st) μ := R_get (ci := 5) (j := 0) rfl inX5 (by decide) rfl tF_RX3_51 hs.1 rfl hdg hn k
theorem gf_X5_15 {id : Nat} (hs : StB id) (hdg : decode cc pc = .ok (.getfield 15, 3)) (hn : pc + 3 = n) (k : V G l RX5 cc nL dep lg ret Q n lo (.ref (G.2.2.1 (id + 2)) :: st) μ) : V G l RX5 cc nL dep lg ret Q pc lo (.ref (G.2.2.1 id) :: st) μ := R_get (ci := 5) (j := 1) rfl inX5 (by decide) rfl tF_RX5_15 hs.1 rfl hdg hn k
theorem gf_X7_101 {id : Nat} (hs : StB id) (hdg : decode cc pc = .ok (.getfield 101, 3)) (hn : pc + 3 = n) (k : V G l RX7 cc nL dep lg ret Q n lo (.ref (G.2.2.1 (id + 2)) :: st) μ) : V G l RX7 cc nL dep lg ret Q pc lo (.ref (G.2.2.1 id) :: st) μ := R_get (ci := 5) (j := 1) rfl inX5 (by decide) rfl tF_RX7_101 hs.1 rfl hdg hn k
theorem gf_X1_88 {id : Nat} (hs : StB id) (hdg : decode cc pc = .ok (.getfield 88, 3)) (hn : pc + 3 = n) (k : V G l RX1 cc nL dep lg ret Q n lo (.ref (G.2.2.1 (id + 2)) :: st) μ) : V G l RX1 cc nL dep lg ret Q pc lo (.ref (G.2.2.1 id) :: st) μ := R_get (ci := 5) (j := 1) rfl inX5 (by decide) rfl tF_RX1_88 hs.1 rfl hdg hn k
theorem gf_X5_18 {id : Nat} (hs : StB id) (hdg : decode cc pc = .ok (.getfield 18, 3)) (hn : pc + 3 = n) (k : V G l RX5 cc nL dep lg ret Q n lo (.ref (G.2.2.1 (id + 3)) :: st) μ) : V G l RX5 cc nL dep lg ret Q pc lo (.ref (G.2.2.1 id) :: st) μ := R_get (ci := 5) (j := 2) rfl inX5 (by decide) rfl tF_RX5_18 hs.1 rfl hdg hn k
theorem gf_X1_53 {id : Nat} (hs : StB id) (hdg : decode cc pc = .ok (.getfield 53, 3)) (hn : pc + 3 = n) (k : V G l RX1 cc nL dep lg ret Q n lo (.ref (G.2.2.1 (id + 3)) :: st) μ) : V G l RX1 cc nL dep lg ret Q pc lo (.ref (G.2.2.1 id) :: st) μ := R_get (ci := 5) (j := 2) rfl inX5 (by decide) rfl tF_RX1_53 hs.1 rfl hdg hn k
theorem gf_X7_92 {id : Nat} (hs : StB id) (hdg : decode cc pc = .ok (.getfield 92, 3)) (hn : pc + 3 = n) (k : V G l RX7 cc nL dep lg ret Q n lo (.ref (G.2.2.1 (id + 3)) :: st) μ) : V G l RX7 cc nL dep lg ret Q pc lo (.ref (G.2.2.1 id) :: st) μ := R_get (ci := 5) (j := 2) rfl inX5 (by decide) rfl tF_RX7_92 hs.1 rfl hdg hn k
theorem gf_X3_109 {id : Nat} (hs : StB id) (hdg : decode cc pc = .ok (.getfield 109, 3)) (hn : pc + 3 = n) (k : V G l RX3 cc nL dep lg ret Q n lo (.ref (G.2.2.1 (id + 3)) :: st) μ) : V G l RX3 cc nL dep lg ret Q pc lo (.ref (G.2.2.1 id) :: st) μ := R_get (ci := 5) (j := 2) rfl inX5 (by decide) rfl tF_RX3_109 hs.1 rfl hdg hn k
theorem gf_X5_21 {id : Nat} (hs : StB id) (hdg : decode cc pc = .ok (.getfield 21, 3)) (hn : pc + 3 = n) (k : V G l RX5 cc nL dep lg ret Q n lo (.ref (G.2.2.1 (id + 4)) :: st) μ) : V G l RX5 cc nL dep lg ret Q pc lo (.ref (G.2.2.1 id) :: st) μ := R_get (ci := 5) (j := 3) rfl inX5 (by decide) rfl tF_RX5_21 hs.1 rfl hdg hn k
theorem gf_X1_46 {id : Nat} (hs : StB id) (hdg : decode cc pc = .ok (.getfield 46, 3)) (hn : pc + 3 = n) (k : V G l RX1 cc nL dep lg ret Q n lo (.ref (G.2.2.1 (id + 4)) :: st) μ) : V G l RX1 cc nL dep lg ret Q pc lo (.ref (G.2.2.1 id) :: st) μ := R_get (ci := 5) (j := 3) rfl inX5 (by decide) rfl tF_RX1_46 hs.1 rfl hdg hn k
theorem gf_X2_41 {id : Nat} (hs : StB id) (hdg : decode cc pc = .ok (.getfield 41, 3)) (hn : pc + 3 = n) (k : V G l RX2 cc nL dep lg ret Q n lo (.ref (G.2.2.1 (id + 4)) :: st) μ) : V G l RX2 cc nL dep lg ret Q pc lo (.ref (G.2.2.1 id) :: st) μ := R_get (ci := 5) (j := 3) rfl inX5 (by decide) rfl tF_RX2_41 hs.1 rfl hdg hn k
theorem gf_X7_107 {id : Nat} (hs : StB id) (hdg : decode cc pc = .ok (.getfield 107, 3)) (hn : pc + 3 = n) (k : V G l RX7 cc nL dep lg ret Q n lo (.ref (G.2.2.1 (id + 4)) :: st) μ) : V G l RX7 cc nL dep lg ret Q pc lo (.ref (G.2.2.1 id) :: st) μ := R_get (ci := 5) (j := 3) rfl inX5 (by decide) rfl tF_RX7_107 hs.1 rfl hdg hn k
theorem gf_X5_24 {id : Nat} (hs : StB id) (hdg : decode cc pc = .ok (.getfield 24, 3)) (hn : pc + 3 = n) (k : V G l RX5 cc nL dep lg ret Q n lo (.ref (G.2.2.1 (id + 5)) :: st) μ) : V G l RX5 cc nL dep lg ret Q pc lo (.ref (G.2.2.1 id) :: st) μ := R_get (ci := 5) (j := 4) rfl inX5 (by decide) rfl tF_RX5_24 hs.1 rfl hdg hn k
theorem gf_X7_254 {id : Nat} (hs : StB id) (hdg : decode cc pc = .ok (.getfield 254, 3)) (hn : pc + 3 = n) (k : V G l RX7 cc nL dep lg ret Q n lo (.ref (G.2.2.1 (id + 5)) :: st) μ) : V G l RX7 cc nL dep lg ret Q pc lo (.ref (G.2.2.1 id) :: st) μ := R_get (ci := 5) (j := 4) rfl inX5 (by decide) rfl tF_RX7_254 hs.1 rfl hdg hn k
theorem gf_X5_33 {id : Nat} (hs : StB id) (hdg : decode cc pc = .ok (.getfield 33, 3)) (hn : pc + 3 = n) (k : V G l RX5 cc nL dep lg ret Q n lo (.int (μ.1 id 5) :: st) μ) : V G l RX5 cc nL dep lg ret Q pc lo (.ref (G.2.2.1 id) :: st) μ := R_get (ci := 5) (j := 5) rfl inX5 (by decide) rfl tF_RX5_33 hs.1 rfl hdg hn k
theorem pf_X5_33 {id : Nat} (hs : StB id) {x : Int32} (hdg : decode cc pc = .ok (.putfield 33, 3)) (hn : pc + 3 = n) (k : V G l RX5 cc nL dep lg ret Q n lo st (sti μ id 5 x)) : V G l RX5 cc nL dep lg ret Q pc lo (.int x :: .ref (G.2.2.1 id) :: st) μ := R_put (ci := 5) (j := 5) rfl inX5 tyX5_ok nmX5 (by decide) rfl tF_RX5_33 rfl rfl hs.1 rfl hdg hn k
theorem gf_X1_59 {id : Nat} (hs : StB id) (hdg : decode cc pc = .ok (.getfield 59, 3)) (hn : pc + 3 = n) (k : V G l RX1 cc nL dep lg ret Q n lo (.int (μ.1 id 5) :: st) μ) : V G l RX1 cc nL dep lg ret Q pc lo (.ref (G.2.2.1 id) :: st) μ := R_get (ci := 5) (j := 5) rfl inX5 (by decide) rfl tF_RX1_59 hs.1 rfl hdg hn k
theorem pf_X1_59 {id : Nat} (hs : StB id) {x : Int32} (hdg : decode cc pc = .ok (.putfield 59, 3)) (hn : pc + 3 = n) (k : V G l RX1 cc nL dep lg ret Q n lo st (sti μ id 5 x)) : V G l RX1 cc nL dep lg ret Q pc lo (.int x :: .ref (G.2.2.1 id) :: st) μ := R_put (ci := 5) (j := 5) rfl inX5 tyX5_ok nmX5 (by decide) rfl tF_RX1_59 rfl rfl hs.1 rfl hdg hn k
theorem gf_X3_134 {id : Nat} (hs : StB id) (hdg : decode cc pc = .ok (.getfield 134, 3)) (hn : pc + 3 = n) (k : V G l RX3 cc nL dep lg ret Q n lo (.int (μ.1 id 5) :: st) μ) : V G l RX3 cc nL dep lg ret Q pc lo (.ref (G.2.2.1 id) :: st) μ := R_get (ci := 5) (j := 5) rfl inX5 (by decide) rfl tF_RX3_134 hs.1 rfl hdg hn k
theorem pf_X3_134 {id : Nat} (hs : StB id) {x : Int32} (hdg : decode cc pc = .ok (.putfield 134, 3)) (hn : pc + 3 = n) (k : V G l RX3 cc nL dep lg ret Q n lo st (sti μ id 5 x)) : V G l RX3 cc nL dep lg ret Q pc lo (.int x :: .ref (G.2.2.1 id) :: st) μ := R_put (ci := 5) (j := 5) rfl inX5 tyX5_ok nmX5 (by decide) rfl tF_RX3_134 rfl rfl hs.1 rfl hdg hn k
theorem gf_X3_24 {id : Nat} (hs : StB id) (hdg : decode cc pc = .ok (.getfield 24, 3)) (hn : pc + 3 = n) (k : V G l RX3 cc nL dep lg ret Q n lo (.int (μ.1 id 6) :: st) μ) : V G l RX3 cc nL dep lg ret Q pc lo (.ref (G.2.2.1 id) :: st) μ := R_get (ci := 5) (j := 6) rfl inX5 (by decide) rfl tF_RX3_24 hs.1 rfl hdg hn k
theorem pf_X3_24 {id : Nat} (hs : StB id) {x : Int32} (hdg : decode cc pc = .ok (.putfield 24, 3)) (hn : pc + 3 = n) (k : V G l RX3 cc nL dep lg ret Q n lo st (sti μ id 6 x)) : V G l RX3 cc nL dep lg ret Q pc lo (.int x :: .ref (G.2.2.1 id) :: st) μ := R_put (ci := 5) (j := 6) rfl inX5 tyX5_ok nmX5 (by decide) rfl tF_RX3_24 rfl rfl hs.1 rfl hdg hn k
theorem gf_X5_37 {id : Nat} (hs : StB id) (hdg : decode cc pc = .ok (.getfield 37, 3)) (hn : pc + 3 = n) (k : V G l RX5 cc nL dep lg ret Q n lo (.int (μ.1 id 6) :: st) μ) : V G l RX5 cc nL dep lg ret Q pc lo (.ref (G.2.2.1 id) :: st) μ := R_get (ci := 5) (j := 6) rfl inX5 (by decide) rfl tF_RX5_37 hs.1 rfl hdg hn k
theorem pf_X5_37 {id : Nat} (hs : StB id) {x : Int32} (hdg : decode cc pc = .ok (.putfield 37, 3)) (hn : pc + 3 = n) (k : V G l RX5 cc nL dep lg ret Q n lo st (sti μ id 6 x)) : V G l RX5 cc nL dep lg ret Q pc lo (.int x :: .ref (G.2.2.1 id) :: st) μ := R_put (ci := 5) (j := 6) rfl inX5 tyX5_ok nmX5 (by decide) rfl tF_RX5_37 rfl rfl hs.1 rfl hdg hn k
theorem gf_X1_62 {id : Nat} (hs : StB id) (hdg : decode cc pc = .ok (.getfield 62, 3)) (hn : pc + 3 = n) (k : V G l RX1 cc nL dep lg ret Q n lo (.int (μ.1 id 6) :: st) μ) : V G l RX1 cc nL dep lg ret Q pc lo (.ref (G.2.2.1 id) :: st) μ := R_get (ci := 5) (j := 6) rfl inX5 (by decide) rfl tF_RX1_62 hs.1 rfl hdg hn k
theorem pf_X1_62 {id : Nat} (hs : StB id) {x : Int32} (hdg : decode cc pc = .ok (.putfield 62, 3)) (hn : pc + 3 = n) (k : V G l RX1 cc nL dep lg ret Q n lo st (sti μ id 6 x)) : V G l RX1 cc nL dep lg ret Q pc lo (.int x :: .ref (G.2.2.1 id) :: st) μ := R_put (ci := 5) (j := 6) rfl inX5 tyX5_ok nmX5 (by decide) rfl tF_RX1_62 rfl rfl hs.1 rfl hdg hn k
theorem gf_X2_95 {id : Nat} (hs : StB id) (hdg : decode cc pc = .ok (.getfield 95, 3)) (hn : pc + 3 = n) (k : V G l RX2 cc nL dep lg ret Q n lo (.int (μ.1 id 6) :: st) μ) : V G l RX2 cc nL dep lg ret Q pc lo (.ref (G.2.2.1 id) :: st) μ := R_get (ci := 5) (j := 6) rfl inX5 (by decide) rfl tF_RX2_95 hs.1 rfl hdg hn k
theorem pf_X2_95 {id : Nat} (hs : StB id) {x : Int32} (hdg : decode cc pc = .ok (.putfield 95, 3)) (hn : pc + 3 = n) (k : V G l RX2 cc nL dep lg ret Q n lo st (sti μ id 6 x)) : V G l RX2 cc nL dep lg ret Q pc lo (.int x :: .ref (G.2.2.1 id) :: st) μ := R_put (ci := 5) (j := 6) rfl inX5 tyX5_ok nmX5 (by decide) rfl tF_RX2_95 rfl rfl hs.1 rfl hdg hn k
theorem gf_X7_236 {id : Nat} (hs : StB id) (hdg : decode cc pc = .ok (.getfield 236, 3)) (hn : pc + 3 = n) (k : V G l RX7 cc nL dep lg ret Q n lo (.int (μ.1 id 6) :: st) μ) : V G l RX7 cc nL dep lg ret Q pc lo (.ref (G.2.2.1 id) :: st) μ := R_get (ci := 5) (j := 6) rfl inX5 (by decide) rfl tF_RX7_236 hs.1 rfl hdg hn k
theorem pf_X7_236 {id : Nat} (hs : StB id) {x : Int32} (hdg : decode cc pc = .ok (.putfield 236, 3)) (hn : pc + 3 = n) (k : V G l RX7 cc nL dep lg ret Q n lo st (sti μ id 6 x)) : V G l RX7 cc nL dep lg ret Q pc lo (.int x :: .ref (G.2.2.1 id) :: st) μ := R_put (ci := 5) (j := 6) rfl inX5 tyX5_ok nmX5 (by decide) rfl tF_RX7_236 rfl rfl hs.1 rfl hdg hn k
theorem gf_X1_9 (hdg : decode cc pc = .ok (.getfield 9, 3)) (hn : pc + 3 = n) (k : V G l RX1 cc nL dep lg ret Q n lo (.ref (G.2.2.1 4) :: st) μ) : V G l RX1 cc nL dep lg ret Q pc lo (.ref (G.2.2.1 3) :: st) μ := R_get (ci := 1) (j := 0) rfl inX1 (by decide) rfl tF_RX1_9 sh_3 rfl hdg hn k
theorem gf_X7_81 (hdg : decode cc pc = .ok (.getfield 81, 3)) (hn : pc + 3 = n) (k : V G l RX7 cc nL dep lg ret Q n lo (.ref (G.2.2.1 4) :: st) μ) : V G l RX7 cc nL dep lg ret Q pc lo (.ref (G.2.2.1 3) :: st) μ := R_get (ci := 1) (j := 0) rfl inX1 (by decide) rfl tF_RX7_81 sh_3 rfl hdg hn k
theorem gf_X1_15 (hdg : decode cc pc = .ok (.getfield 15, 3)) (hn : pc + 3 = n) (k : V G l RX1 cc nL dep lg ret Q n lo (.ref (G.2.2.1 5) :: st) μ) : V G l RX1 cc nL dep lg ret Q pc lo (.ref (G.2.2.1 3) :: st) μ := R_get (ci := 1) (j := 1) rfl inX1 (by decide) rfl tF_RX1_15 sh_3 rfl hdg hn k
theorem gf_X7_85 (hdg : decode cc pc = .ok (.getfield 85, 3)) (hn : pc + 3 = n) (k : V G l RX7 cc nL dep lg ret Q n lo (.ref (G.2.2.1 5) :: st) μ) : V G l RX7 cc nL dep lg ret Q pc lo (.ref (G.2.2.1 3) :: st) μ := R_get (ci := 1) (j := 1) rfl inX1 (by decide) rfl tF_RX7_85 sh_3 rfl hdg hn k
theorem gf_X1_21 (hdg : decode cc pc = .ok (.getfield 21, 3)) (hn : pc + 3 = n) (k : V G l RX1 cc nL dep lg ret Q n lo (.ref (G.2.2.1 6) :: st) μ) : V G l RX1 cc nL dep lg ret Q pc lo (.ref (G.2.2.1 3) :: st) μ := R_get (ci := 1) (j := 2) rfl inX1 (by decide) rfl tF_RX1_21 sh_3 rfl hdg hn k
theorem gf_X7_88 (hdg : decode cc pc = .ok (.getfield 88, 3)) (hn : pc + 3 = n) (k : V G l RX7 cc nL dep lg ret Q n lo (.ref (G.2.2.1 6) :: st) μ) : V G l RX7 cc nL dep lg ret Q pc lo (.ref (G.2.2.1 3) :: st) μ := R_get (ci := 1) (j := 2) rfl inX1 (by decide) rfl tF_RX7_88 sh_3 rfl hdg hn k
theorem gf_X3_105 (hdg : decode cc pc = .ok (.getfield 105, 3)) (hn : pc + 3 = n) (k : V G l RX3 cc nL dep lg ret Q n lo (.ref (G.2.2.1 6) :: st) μ) : V G l RX3 cc nL dep lg ret Q pc lo (.ref (G.2.2.1 3) :: st) μ := R_get (ci := 1) (j := 2) rfl inX1 (by decide) rfl tF_RX3_105 sh_3 rfl hdg hn k
theorem gf_X1_25 (hdg : decode cc pc = .ok (.getfield 25, 3)) (hn : pc + 3 = n) (k : V G l RX1 cc nL dep lg ret Q n lo (.ref (G.2.2.1 12) :: st) μ) : V G l RX1 cc nL dep lg ret Q pc lo (.ref (G.2.2.1 3) :: st) μ := R_get (ci := 1) (j := 3) rfl inX1 (by decide) rfl tF_RX1_25 sh_3 rfl hdg hn k
theorem gf_X1_28 (hdg : decode cc pc = .ok (.getfield 28, 3)) (hn : pc + 3 = n) (k : V G l RX1 cc nL dep lg ret Q n lo (.int (μ.1 3 4) :: st) μ) : V G l RX1 cc nL dep lg ret Q pc lo (.ref (G.2.2.1 3) :: st) μ := R_get (ci := 1) (j := 4) rfl inX1 (by decide) rfl tF_RX1_28 sh_3 rfl hdg hn k
theorem pf_X1_28 {x : Int32} (hdg : decode cc pc = .ok (.putfield 28, 3)) (hn : pc + 3 = n) (k : V G l RX1 cc nL dep lg ret Q n lo st (sti μ 3 4 x)) : V G l RX1 cc nL dep lg ret Q pc lo (.int x :: .ref (G.2.2.1 3) :: st) μ := R_put (ci := 1) (j := 4) rfl inX1 tyX1_ok nmX1 (by decide) rfl tF_RX1_28 rfl rfl sh_3 rfl hdg hn k
theorem gf_X3_30 (hdg : decode cc pc = .ok (.getfield 30, 3)) (hn : pc + 3 = n) (k : V G l RX3 cc nL dep lg ret Q n lo (.int (μ.1 3 4) :: st) μ) : V G l RX3 cc nL dep lg ret Q pc lo (.ref (G.2.2.1 3) :: st) μ := R_get (ci := 1) (j := 4) rfl inX1 (by decide) rfl tF_RX3_30 sh_3 rfl hdg hn k
theorem pf_X3_30 {x : Int32} (hdg : decode cc pc = .ok (.putfield 30, 3)) (hn : pc + 3 = n) (k : V G l RX3 cc nL dep lg ret Q n lo st (sti μ 3 4 x)) : V G l RX3 cc nL dep lg ret Q pc lo (.int x :: .ref (G.2.2.1 3) :: st) μ := R_put (ci := 1) (j := 4) rfl inX1 tyX1_ok nmX1 (by decide) rfl tF_RX3_30 rfl rfl sh_3 rfl hdg hn k
theorem gf_X7_71 (hdg : decode cc pc = .ok (.getfield 71, 3)) (hn : pc + 3 = n) (k : V G l RX7 cc nL dep lg ret Q n lo (.int (μ.1 3 4) :: st) μ) : V G l RX7 cc nL dep lg ret Q pc lo (.ref (G.2.2.1 3) :: st) μ := R_get (ci := 1) (j := 4) rfl inX1 (by decide) rfl tF_RX7_71 sh_3 rfl hdg hn k
theorem pf_X7_71 {x : Int32} (hdg : decode cc pc = .ok (.putfield 71, 3)) (hn : pc + 3 = n) (k : V G l RX7 cc nL dep lg ret Q n lo st (sti μ 3 4 x)) : V G l RX7 cc nL dep lg ret Q pc lo (.int x :: .ref (G.2.2.1 3) :: st) μ := R_put (ci := 1) (j := 4) rfl inX1 tyX1_ok nmX1 (by decide) rfl tF_RX7_71 rfl rfl sh_3 rfl hdg hn k
theorem gf_X2_73 (hdg : decode cc pc = .ok (.getfield 73, 3)) (hn : pc + 3 = n) (k : V G l RX2 cc nL dep lg ret Q n lo (.int (μ.1 3 4) :: st) μ) : V G l RX2 cc nL dep lg ret Q pc lo (.ref (G.2.2.1 3) :: st) μ := R_get (ci := 1) (j := 4) rfl inX1 (by decide) rfl tF_RX2_73 sh_3 rfl hdg hn k
theorem pf_X2_73 {x : Int32} (hdg : decode cc pc = .ok (.putfield 73, 3)) (hn : pc + 3 = n) (k : V G l RX2 cc nL dep lg ret Q n lo st (sti μ 3 4 x)) : V G l RX2 cc nL dep lg ret Q pc lo (.int x :: .ref (G.2.2.1 3) :: st) μ := R_put (ci := 1) (j := 4) rfl inX1 tyX1_ok nmX1 (by decide) rfl tF_RX2_73 rfl rfl sh_3 rfl hdg hn k
theorem gf_X2_18 (hdg : decode cc pc = .ok (.getfield 18, 3)) (hn : pc + 3 = n) (k : V G l RX2 cc nL dep lg ret Q n lo (.int (μ.1 3 5) :: st) μ) : V G l RX2 cc nL dep lg ret Q pc lo (.ref (G.2.2.1 3) :: st) μ := R_get (ci := 1) (j := 5) rfl inX1 (by decide) rfl tF_RX2_18 sh_3 rfl hdg hn k
theorem pf_X2_18 {x : Int32} (hdg : decode cc pc = .ok (.putfield 18, 3)) (hn : pc + 3 = n) (k : V G l RX2 cc nL dep lg ret Q n lo st (sti μ 3 5 x)) : V G l RX2 cc nL dep lg ret Q pc lo (.int x :: .ref (G.2.2.1 3) :: st) μ := R_put (ci := 1) (j := 5) rfl inX1 tyX1_ok nmX1 (by decide) rfl tF_RX2_18 rfl rfl sh_3 rfl hdg hn k
theorem gf_X1_32 (hdg : decode cc pc = .ok (.getfield 32, 3)) (hn : pc + 3 = n) (k : V G l RX1 cc nL dep lg ret Q n lo (.int (μ.1 3 5) :: st) μ) : V G l RX1 cc nL dep lg ret Q pc lo (.ref (G.2.2.1 3) :: st) μ := R_get (ci := 1) (j := 5) rfl inX1 (by decide) rfl tF_RX1_32 sh_3 rfl hdg hn k
theorem pf_X1_32 {x : Int32} (hdg : decode cc pc = .ok (.putfield 32, 3)) (hn : pc + 3 = n) (k : V G l RX1 cc nL dep lg ret Q n lo st (sti μ 3 5 x)) : V G l RX1 cc nL dep lg ret Q pc lo (.int x :: .ref (G.2.2.1 3) :: st) μ := R_put (ci := 1) (j := 5) rfl inX1 tyX1_ok nmX1 (by decide) rfl tF_RX1_32 rfl rfl sh_3 rfl hdg hn k
theorem gf_X3_45 (hdg : decode cc pc = .ok (.getfield 45, 3)) (hn : pc + 3 = n) (k : V G l RX3 cc nL dep lg ret Q n lo (.int (μ.1 3 5) :: st) μ) : V G l RX3 cc nL dep lg ret Q pc lo (.ref (G.2.2.1 3) :: st) μ := R_get (ci := 1) (j := 5) rfl inX1 (by decide) rfl tF_RX3_45 sh_3 rfl hdg hn k
theorem pf_X3_45 {x : Int32} (hdg : decode cc pc = .ok (.putfield 45, 3)) (hn : pc + 3 = n) (k : V G l RX3 cc nL dep lg ret Q n lo st (sti μ 3 5 x)) : V G l RX3 cc nL dep lg ret Q pc lo (.int x :: .ref (G.2.2.1 3) :: st) μ := R_put (ci := 1) (j := 5) rfl inX1 tyX1_ok nmX1 (by decide) rfl tF_RX3_45 rfl rfl sh_3 rfl hdg hn k
theorem gf_X7_74 (hdg : decode cc pc = .ok (.getfield 74, 3)) (hn : pc + 3 = n) (k : V G l RX7 cc nL dep lg ret Q n lo (.int (μ.1 3 5) :: st) μ) : V G l RX7 cc nL dep lg ret Q pc lo (.ref (G.2.2.1 3) :: st) μ := R_get (ci := 1) (j := 5) rfl inX1 (by decide) rfl tF_RX7_74 sh_3 rfl hdg hn k
theorem pf_X7_74 {x : Int32} (hdg : decode cc pc = .ok (.putfield 74, 3)) (hn : pc + 3 = n) (k : V G l RX7 cc nL dep lg ret Q n lo st (sti μ 3 5 x)) : V G l RX7 cc nL dep lg ret Q pc lo (.int x :: .ref (G.2.2.1 3) :: st) μ := R_put (ci := 1) (j := 5) rfl inX1 tyX1_ok nmX1 (by decide) rfl tF_RX7_74 rfl rfl sh_3 rfl hdg hn k
theorem gf_X0_11 (hdg : decode cc pc = .ok (.getfield 11, 3)) (hn : pc + 3 = n) (k : V G l RX0 cc nL dep lg ret Q n lo (.ref (G.2.2.1 19) :: st) μ) : V G l RX0 cc nL dep lg ret Q pc lo (.ref (G.2.2.1 18) :: st) μ := R_get (ci := 0) (j := 0) rfl inX0 (by decide) rfl tF_RX0_11 sh_18 rfl hdg hn k
theorem gf_X0_18 (hdg : decode cc pc = .ok (.getfield 18, 3)) (hn : pc + 3 = n) (k : V G l RX0 cc nL dep lg ret Q n lo (.int (μ.1 18 1) :: st) μ) : V G l RX0 cc nL dep lg ret Q pc lo (.ref (G.2.2.1 18) :: st) μ := R_get (ci := 0) (j := 1) rfl inX0 (by decide) rfl tF_RX0_18 sh_18 rfl hdg hn k
theorem pf_X0_18 {x : Int32} (hdg : decode cc pc = .ok (.putfield 18, 3)) (hn : pc + 3 = n) (k : V G l RX0 cc nL dep lg ret Q n lo st (sti μ 18 1 x)) : V G l RX0 cc nL dep lg ret Q pc lo (.int x :: .ref (G.2.2.1 18) :: st) μ := R_put (ci := 0) (j := 1) rfl inX0 tyX0_ok nmX0 (by decide) rfl tF_RX0_18 rfl rfl sh_18 rfl hdg hn k
theorem gf_X0_22 (hdg : decode cc pc = .ok (.getfield 22, 3)) (hn : pc + 3 = n) (k : V G l RX0 cc nL dep lg ret Q n lo (.int (μ.1 18 2) :: st) μ) : V G l RX0 cc nL dep lg ret Q pc lo (.ref (G.2.2.1 18) :: st) μ := R_get (ci := 0) (j := 2) rfl inX0 (by decide) rfl tF_RX0_22 sh_18 rfl hdg hn k
theorem pf_X0_22 {x : Int32} (hdg : decode cc pc = .ok (.putfield 22, 3)) (hn : pc + 3 = n) (k : V G l RX0 cc nL dep lg ret Q n lo st (sti μ 18 2 x)) : V G l RX0 cc nL dep lg ret Q pc lo (.int x :: .ref (G.2.2.1 18) :: st) μ := R_put (ci := 0) (j := 2) rfl inX0 tyX0_ok nmX0 (by decide) rfl tF_RX0_22 rfl rfl sh_18 rfl hdg hn k
theorem gf_X7_140 (hdg : decode cc pc = .ok (.getfield 140, 3)) (hn : pc + 3 = n) (k : V G l RX7 cc nL dep lg ret Q n lo (.int (μ.1 18 2) :: st) μ) : V G l RX7 cc nL dep lg ret Q pc lo (.ref (G.2.2.1 18) :: st) μ := R_get (ci := 0) (j := 2) rfl inX0 (by decide) rfl tF_RX7_140 sh_18 rfl hdg hn k
theorem pf_X7_140 {x : Int32} (hdg : decode cc pc = .ok (.putfield 140, 3)) (hn : pc + 3 = n) (k : V G l RX7 cc nL dep lg ret Q n lo st (sti μ 18 2 x)) : V G l RX7 cc nL dep lg ret Q pc lo (.int x :: .ref (G.2.2.1 18) :: st) μ := R_put (ci := 0) (j := 2) rfl inX0 tyX0_ok nmX0 (by decide) rfl tF_RX7_140 rfl rfl sh_18 rfl hdg hn k
theorem gf_X4_11 (hdg : decode cc pc = .ok (.getfield 11, 3)) (hn : pc + 3 = n) (k : V G l RX4 cc nL dep lg ret Q n lo (.ref (G.2.2.1 105) :: st) μ) : V G l RX4 cc nL dep lg ret Q pc lo (.ref (G.2.2.1 104) :: st) μ := R_get (ci := 4) (j := 0) rfl inX4 (by decide) rfl tF_RX4_11 sh_104 rfl hdg hn k
theorem gf_X7_243 (hdg : decode cc pc = .ok (.getfield 243, 3)) (hn : pc + 3 = n) (k : V G l RX7 cc nL dep lg ret Q n lo (.ref (G.2.2.1 105) :: st) μ) : V G l RX7 cc nL dep lg ret Q pc lo (.ref (G.2.2.1 104) :: st) μ := R_get (ci := 4) (j := 0) rfl inX4 (by decide) rfl tF_RX7_243 sh_104 rfl hdg hn k
theorem gf_X4_17 (hdg : decode cc pc = .ok (.getfield 17, 3)) (hn : pc + 3 = n) (k : V G l RX4 cc nL dep lg ret Q n lo (.ref (G.2.2.1 118) :: st) μ) : V G l RX4 cc nL dep lg ret Q pc lo (.ref (G.2.2.1 104) :: st) μ := R_get (ci := 4) (j := 1) rfl inX4 (by decide) rfl tF_RX4_17 sh_104 rfl hdg hn k
theorem gf_X7_239 (hdg : decode cc pc = .ok (.getfield 239, 3)) (hn : pc + 3 = n) (k : V G l RX7 cc nL dep lg ret Q n lo (.ref (G.2.2.1 118) :: st) μ) : V G l RX7 cc nL dep lg ret Q pc lo (.ref (G.2.2.1 104) :: st) μ := R_get (ci := 4) (j := 1) rfl inX4 (by decide) rfl tF_RX7_239 sh_104 rfl hdg hn k
theorem gf_X3_9 (hdg : decode cc pc = .ok (.getfield 9, 3)) (hn : pc + 3 = n) (k : V G l RX3 cc nL dep lg ret Q n lo (.ref (G.2.2.1 120) :: st) μ) : V G l RX3 cc nL dep lg ret Q pc lo (.ref (G.2.2.1 119) :: st) μ := R_get (ci := 3) (j := 0) rfl inX3 (by decide) rfl tF_RX3_9 sh_119 rfl hdg hn k
theorem gf_X3_15 (hdg : decode cc pc = .ok (.getfield 15, 3)) (hn : pc + 3 = n) (k : V G l RX3 cc nL dep lg ret Q n lo (.ref (G.2.2.1 121) :: st) μ) : V G l RX3 cc nL dep lg ret Q pc lo (.ref (G.2.2.1 119) :: st) μ := R_get (ci := 3) (j := 1) rfl inX3 (by decide) rfl tF_RX3_15 sh_119 rfl hdg hn k
theorem gf_X2_11 (hdg : decode cc pc = .ok (.getfield 11, 3)) (hn : pc + 3 = n) (k : V G l RX2 cc nL dep lg ret Q n lo (.ref (G.2.2.1 123) :: st) μ) : V G l RX2 cc nL dep lg ret Q pc lo (.ref (G.2.2.1 122) :: st) μ := R_get (ci := 2) (j := 0) rfl inX2 (by decide) rfl tF_RX2_11 sh_122 rfl hdg hn k
theorem gf_X2_15 (hdg : decode cc pc = .ok (.getfield 15, 3)) (hn : pc + 3 = n) (k : V G l RX2 cc nL dep lg ret Q n lo (.ref (G.2.2.1 124) :: st) μ) : V G l RX2 cc nL dep lg ret Q pc lo (.ref (G.2.2.1 122) :: st) μ := R_get (ci := 2) (j := 1) rfl inX2 (by decide) rfl tF_RX2_15 sh_122 rfl hdg hn k
theorem gf_X2_24 (hdg : decode cc pc = .ok (.getfield 24, 3)) (hn : pc + 3 = n) (k : V G l RX2 cc nL dep lg ret Q n lo (.int (μ.1 122 2) :: st) μ) : V G l RX2 cc nL dep lg ret Q pc lo (.ref (G.2.2.1 122) :: st) μ := R_get (ci := 2) (j := 2) rfl inX2 (by decide) rfl tF_RX2_24 sh_122 rfl hdg hn k
theorem pf_X2_24 {x : Int32} (hdg : decode cc pc = .ok (.putfield 24, 3)) (hn : pc + 3 = n) (k : V G l RX2 cc nL dep lg ret Q n lo st (sti μ 122 2 x)) : V G l RX2 cc nL dep lg ret Q pc lo (.int x :: .ref (G.2.2.1 122) :: st) μ := R_put (ci := 2) (j := 2) rfl inX2 tyX2_ok nmX2 (by decide) rfl tF_RX2_24 rfl rfl sh_122 rfl hdg hn k
theorem gf_X7_195 (hdg : decode cc pc = .ok (.getfield 195, 3)) (hn : pc + 3 = n) (k : V G l RX7 cc nL dep lg ret Q n lo (.int (μ.1 122 2) :: st) μ) : V G l RX7 cc nL dep lg ret Q pc lo (.ref (G.2.2.1 122) :: st) μ := R_get (ci := 2) (j := 2) rfl inX2 (by decide) rfl tF_RX7_195 sh_122 rfl hdg hn k
theorem pf_X7_195 {x : Int32} (hdg : decode cc pc = .ok (.putfield 195, 3)) (hn : pc + 3 = n) (k : V G l RX7 cc nL dep lg ret Q n lo st (sti μ 122 2 x)) : V G l RX7 cc nL dep lg ret Q pc lo (.int x :: .ref (G.2.2.1 122) :: st) μ := R_put (ci := 2) (j := 2) rfl inX2 tyX2_ok nmX2 (by decide) rfl tF_RX7_195 rfl rfl sh_122 rfl hdg hn k
theorem gf_X2_27 (hdg : decode cc pc = .ok (.getfield 27, 3)) (hn : pc + 3 = n) (k : V G l RX2 cc nL dep lg ret Q n lo (.int (μ.1 122 3) :: st) μ) : V G l RX2 cc nL dep lg ret Q pc lo (.ref (G.2.2.1 122) :: st) μ := R_get (ci := 2) (j := 3) rfl inX2 (by decide) rfl tF_RX2_27 sh_122 rfl hdg hn k
theorem pf_X2_27 {x : Int32} (hdg : decode cc pc = .ok (.putfield 27, 3)) (hn : pc + 3 = n) (k : V G l RX2 cc nL dep lg ret Q n lo st (sti μ 122 3 x)) : V G l RX2 cc nL dep lg ret Q pc lo (.int x :: .ref (G.2.2.1 122) :: st) μ := R_put (ci := 2) (j := 3) rfl inX2 tyX2_ok nmX2 (by decide) rfl tF_RX2_27 rfl rfl sh_122 rfl hdg hn k
theorem gf_X7_198 (hdg : decode cc pc = .ok (.getfield 198, 3)) (hn : pc + 3 = n) (k : V G l RX7 cc nL dep lg ret Q n lo (.int (μ.1 122 3) :: st) μ) : V G l RX7 cc nL dep lg ret Q pc lo (.ref (G.2.2.1 122) :: st) μ := R_get (ci := 2) (j := 3) rfl inX2 (by decide) rfl tF_RX7_198 sh_122 rfl hdg hn k
theorem pf_X7_198 {x : Int32} (hdg : decode cc pc = .ok (.putfield 198, 3)) (hn : pc + 3 = n) (k : V G l RX7 cc nL dep lg ret Q n lo st (sti μ 122 3 x)) : V G l RX7 cc nL dep lg ret Q pc lo (.int x :: .ref (G.2.2.1 122) :: st) μ := R_put (ci := 2) (j := 3) rfl inX2 tyX2_ok nmX2 (by decide) rfl tF_RX7_198 rfl rfl sh_122 rfl hdg hn k
theorem gf_X2_34 (hdg : decode cc pc = .ok (.getfield 34, 3)) (hn : pc + 3 = n) (k : V G l RX2 cc nL dep lg ret Q n lo (.int (μ.1 122 4) :: st) μ) : V G l RX2 cc nL dep lg ret Q pc lo (.ref (G.2.2.1 122) :: st) μ := R_get (ci := 2) (j := 4) rfl inX2 (by decide) rfl tF_RX2_34 sh_122 rfl hdg hn k
theorem pf_X2_34 {x : Int32} (hdg : decode cc pc = .ok (.putfield 34, 3)) (hn : pc + 3 = n) (k : V G l RX2 cc nL dep lg ret Q n lo st (sti μ 122 4 x)) : V G l RX2 cc nL dep lg ret Q pc lo (.int x :: .ref (G.2.2.1 122) :: st) μ := R_put (ci := 2) (j := 4) rfl inX2 tyX2_ok nmX2 (by decide) rfl tF_RX2_34 rfl rfl sh_122 rfl hdg hn k
theorem gf_X7_201 (hdg : decode cc pc = .ok (.getfield 201, 3)) (hn : pc + 3 = n) (k : V G l RX7 cc nL dep lg ret Q n lo (.int (μ.1 122 4) :: st) μ) : V G l RX7 cc nL dep lg ret Q pc lo (.ref (G.2.2.1 122) :: st) μ := R_get (ci := 2) (j := 4) rfl inX2 (by decide) rfl tF_RX7_201 sh_122 rfl hdg hn k
theorem pf_X7_201 {x : Int32} (hdg : decode cc pc = .ok (.putfield 201, 3)) (hn : pc + 3 = n) (k : V G l RX7 cc nL dep lg ret Q n lo st (sti μ 122 4 x)) : V G l RX7 cc nL dep lg ret Q pc lo (.int x :: .ref (G.2.2.1 122) :: st) μ := R_put (ci := 2) (j := 4) rfl inX2 tyX2_ok nmX2 (by decide) rfl tF_RX7_201 rfl rfl sh_122 rfl hdg hn k
theorem gf_X2_66 (hdg : decode cc pc = .ok (.getfield 66, 3)) (hn : pc + 3 = n) (k : V G l RX2 cc nL dep lg ret Q n lo (.int (μ.1 122 5) :: st) μ) : V G l RX2 cc nL dep lg ret Q pc lo (.ref (G.2.2.1 122) :: st) μ := R_get (ci := 2) (j := 5) rfl inX2 (by decide) rfl tF_RX2_66 sh_122 rfl hdg hn k
theorem pf_X2_66 {x : Int32} (hdg : decode cc pc = .ok (.putfield 66, 3)) (hn : pc + 3 = n) (k : V G l RX2 cc nL dep lg ret Q n lo st (sti μ 122 5 x)) : V G l RX2 cc nL dep lg ret Q pc lo (.int x :: .ref (G.2.2.1 122) :: st) μ := R_put (ci := 2) (j := 5) rfl inX2 tyX2_ok nmX2 (by decide) rfl tF_RX2_66 rfl rfl sh_122 rfl hdg hn k
theorem gf_X7_208 (hdg : decode cc pc = .ok (.getfield 208, 3)) (hn : pc + 3 = n) (k : V G l RX7 cc nL dep lg ret Q n lo (.int (μ.1 122 5) :: st) μ) : V G l RX7 cc nL dep lg ret Q pc lo (.ref (G.2.2.1 122) :: st) μ := R_get (ci := 2) (j := 5) rfl inX2 (by decide) rfl tF_RX7_208 sh_122 rfl hdg hn k
theorem pf_X7_208 {x : Int32} (hdg : decode cc pc = .ok (.putfield 208, 3)) (hn : pc + 3 = n) (k : V G l RX7 cc nL dep lg ret Q n lo st (sti μ 122 5 x)) : V G l RX7 cc nL dep lg ret Q pc lo (.int x :: .ref (G.2.2.1 122) :: st) μ := R_put (ci := 2) (j := 5) rfl inX2 tyX2_ok nmX2 (by decide) rfl tF_RX7_208 rfl rfl sh_122 rfl hdg hn k
theorem gf_X7_10 (hdg : decode cc pc = .ok (.getfield 10, 3)) (hn : pc + 3 = n) (k : V G l RX7 cc nL dep lg ret Q n lo (.ref (G.2.2.1 1) :: st) μ) : V G l RX7 cc nL dep lg ret Q pc lo (.ref (G.2.2.1 0) :: st) μ := R_get (ci := 7) (j := 0) rfl inX7 (by decide) rfl tF_RX7_10 sh_0 rfl hdg hn k
theorem gf_X7_19 (hdg : decode cc pc = .ok (.getfield 19, 3)) (hn : pc + 3 = n) (k : V G l RX7 cc nL dep lg ret Q n lo (.ref (G.2.2.1 3) :: st) μ) : V G l RX7 cc nL dep lg ret Q pc lo (.ref (G.2.2.1 0) :: st) μ := R_get (ci := 7) (j := 1) rfl inX7 (by decide) rfl tF_RX7_19 sh_0 rfl hdg hn k
theorem gf_X7_26 (hdg : decode cc pc = .ok (.getfield 26, 3)) (hn : pc + 3 = n) (k : V G l RX7 cc nL dep lg ret Q n lo (.ref (G.2.2.1 18) :: st) μ) : V G l RX7 cc nL dep lg ret Q pc lo (.ref (G.2.2.1 0) :: st) μ := R_get (ci := 7) (j := 2) rfl inX7 (by decide) rfl tF_RX7_26 sh_0 rfl hdg hn k
theorem gf_X7_33 (hdg : decode cc pc = .ok (.getfield 33, 3)) (hn : pc + 3 = n) (k : V G l RX7 cc nL dep lg ret Q n lo (.ref (G.2.2.1 104) :: st) μ) : V G l RX7 cc nL dep lg ret Q pc lo (.ref (G.2.2.1 0) :: st) μ := R_get (ci := 7) (j := 3) rfl inX7 (by decide) rfl tF_RX7_33 sh_0 rfl hdg hn k
theorem gf_X7_40 (hdg : decode cc pc = .ok (.getfield 40, 3)) (hn : pc + 3 = n) (k : V G l RX7 cc nL dep lg ret Q n lo (.ref (G.2.2.1 119) :: st) μ) : V G l RX7 cc nL dep lg ret Q pc lo (.ref (G.2.2.1 0) :: st) μ := R_get (ci := 7) (j := 4) rfl inX7 (by decide) rfl tF_RX7_40 sh_0 rfl hdg hn k
theorem gf_X7_47 (hdg : decode cc pc = .ok (.getfield 47, 3)) (hn : pc + 3 = n) (k : V G l RX7 cc nL dep lg ret Q n lo (.ref (G.2.2.1 122) :: st) μ) : V G l RX7 cc nL dep lg ret Q pc lo (.ref (G.2.2.1 0) :: st) μ := R_get (ci := 7) (j := 5) rfl inX7 (by decide) rfl tF_RX7_47 sh_0 rfl hdg hn k
theorem gf_X7_218 (hdg : decode cc pc = .ok (.getfield 218, 3)) (hn : pc + 3 = n) (k : V G l RX7 cc nL dep lg ret Q n lo (.long (μ.2 0) :: st) μ) : V G l RX7 cc nL dep lg ret Q pc lo (.ref (G.2.2.1 0) :: st) μ := R_get (ci := 7) (j := 6) rfl inX7 (by decide) rfl tF_RX7_218 sh_0 rfl hdg hn k
theorem pf_X7_218 {x : Int64} (hdg : decode cc pc = .ok (.putfield 218, 3)) (hn : pc + 3 = n) (k : V G l RX7 cc nL dep lg ret Q n lo st (stl μ 0 x)) : V G l RX7 cc nL dep lg ret Q pc lo (.long x :: .ref (G.2.2.1 0) :: st) μ := R_putl (ci := 7) (j := 6) rfl inX7 tyX7_ok nmX7 (by decide) rfl tF_RX7_218 rfl rfl sh_0 rfl (one_long 7 6 _ rfl (by decide)) hdg hn k
theorem gf_X8_50 (hdg : decode cc pc = .ok (.getfield 50, 3)) (hn : pc + 3 = n) (k : V G l RX8 cc nL dep lg ret Q n lo (.int (μ.1 125 0) :: st) μ) : V G l RX8 cc nL dep lg ret Q pc lo (.ref (G.2.2.1 125) :: st) μ := R_get (ci := 8) (j := 0) rfl inX8 (by decide) rfl tF_RX8_50 sh_125 rfl hdg hn k
theorem pf_X8_50 {x : Int32} (hdg : decode cc pc = .ok (.putfield 50, 3)) (hn : pc + 3 = n) (k : V G l RX8 cc nL dep lg ret Q n lo st (sti μ 125 0 x)) : V G l RX8 cc nL dep lg ret Q pc lo (.int x :: .ref (G.2.2.1 125) :: st) μ := R_put (ci := 8) (j := 0) rfl inX8 tyX8_ok nmX8 (by decide) rfl tF_RX8_50 rfl rfl sh_125 rfl hdg hn k
theorem gf_X8_83 (hdg : decode cc pc = .ok (.getfield 83, 3)) (hn : pc + 3 = n) (k : V G l RX8 cc nL dep lg ret Q n lo (.int (μ.1 125 1) :: st) μ) : V G l RX8 cc nL dep lg ret Q pc lo (.ref (G.2.2.1 125) :: st) μ := R_get (ci := 8) (j := 1) rfl inX8 (by decide) rfl tF_RX8_83 sh_125 rfl hdg hn k
theorem pf_X8_83 {x : Int32} (hdg : decode cc pc = .ok (.putfield 83, 3)) (hn : pc + 3 = n) (k : V G l RX8 cc nL dep lg ret Q n lo st (sti μ 125 1 x)) : V G l RX8 cc nL dep lg ret Q pc lo (.int x :: .ref (G.2.2.1 125) :: st) μ := R_put (ci := 8) (j := 1) rfl inX8 tyX8_ok nmX8 (by decide) rfl tF_RX8_83 rfl rfl sh_125 rfl hdg hn k
theorem gf_X8_7 (hdg : decode cc pc = .ok (.getfield 7, 3)) (hn : pc + 3 = n) (k : V G l RX8 cc nL dep lg ret Q n lo (.ref (G.2.2.1 126) :: st) μ) : V G l RX8 cc nL dep lg ret Q pc lo (.ref (G.2.2.1 125) :: st) μ := R_get (ci := 8) (j := 2) rfl inX8 (by decide) rfl tF_RX8_7 sh_125 rfl hdg hn k
theorem gf_X8_13 (hdg : decode cc pc = .ok (.getfield 13, 3)) (hn : pc + 3 = n) (k : V G l RX8 cc nL dep lg ret Q n lo (.ref (G.2.2.1 127) :: st) μ) : V G l RX8 cc nL dep lg ret Q pc lo (.ref (G.2.2.1 125) :: st) μ := R_get (ci := 8) (j := 3) rfl inX8 (by decide) rfl tF_RX8_13 sh_125 rfl hdg hn k
theorem gf_X8_16 (hdg : decode cc pc = .ok (.getfield 16, 3)) (hn : pc + 3 = n) (k : V G l RX8 cc nL dep lg ret Q n lo (.ref (G.2.2.1 128) :: st) μ) : V G l RX8 cc nL dep lg ret Q pc lo (.ref (G.2.2.1 125) :: st) μ := R_get (ci := 8) (j := 4) rfl inX8 (by decide) rfl tF_RX8_16 sh_125 rfl hdg hn k
theorem gf_X8_19 (hdg : decode cc pc = .ok (.getfield 19, 3)) (hn : pc + 3 = n) (k : V G l RX8 cc nL dep lg ret Q n lo (.ref (G.2.2.1 129) :: st) μ) : V G l RX8 cc nL dep lg ret Q pc lo (.ref (G.2.2.1 125) :: st) μ := R_get (ci := 8) (j := 5) rfl inX8 (by decide) rfl tF_RX8_19 sh_125 rfl hdg hn k
theorem gf_X8_22 (hdg : decode cc pc = .ok (.getfield 22, 3)) (hn : pc + 3 = n) (k : V G l RX8 cc nL dep lg ret Q n lo (.ref (G.2.2.1 130) :: st) μ) : V G l RX8 cc nL dep lg ret Q pc lo (.ref (G.2.2.1 125) :: st) μ := R_get (ci := 8) (j := 6) rfl inX8 (by decide) rfl tF_RX8_22 sh_125 rfl hdg hn k
theorem gf_X8_69 (hdg : decode cc pc = .ok (.getfield 69, 3)) (hn : pc + 3 = n) (k : V G l RX8 cc nL dep lg ret Q n lo (.int (μ.1 125 7) :: st) μ) : V G l RX8 cc nL dep lg ret Q pc lo (.ref (G.2.2.1 125) :: st) μ := R_get (ci := 8) (j := 7) rfl inX8 (by decide) rfl tF_RX8_69 sh_125 rfl hdg hn k
theorem pf_X8_69 {x : Int32} (hdg : decode cc pc = .ok (.putfield 69, 3)) (hn : pc + 3 = n) (k : V G l RX8 cc nL dep lg ret Q n lo st (sti μ 125 7 x)) : V G l RX8 cc nL dep lg ret Q pc lo (.int x :: .ref (G.2.2.1 125) :: st) μ := R_put (ci := 8) (j := 7) rfl inX8 tyX8_ok nmX8 (by decide) rfl tF_RX8_69 rfl rfl sh_125 rfl hdg hn k
theorem gf_X8_72 (hdg : decode cc pc = .ok (.getfield 72, 3)) (hn : pc + 3 = n) (k : V G l RX8 cc nL dep lg ret Q n lo (.int (μ.1 125 8) :: st) μ) : V G l RX8 cc nL dep lg ret Q pc lo (.ref (G.2.2.1 125) :: st) μ := R_get (ci := 8) (j := 8) rfl inX8 (by decide) rfl tF_RX8_72 sh_125 rfl hdg hn k
theorem pf_X8_72 {x : Int32} (hdg : decode cc pc = .ok (.putfield 72, 3)) (hn : pc + 3 = n) (k : V G l RX8 cc nL dep lg ret Q n lo st (sti μ 125 8 x)) : V G l RX8 cc nL dep lg ret Q pc lo (.int x :: .ref (G.2.2.1 125) :: st) μ := R_put (ci := 8) (j := 8) rfl inX8 tyX8_ok nmX8 (by decide) rfl tF_RX8_72 rfl rfl sh_125 rfl hdg hn k
theorem gf_X8_25 (hdg : decode cc pc = .ok (.getfield 25, 3)) (hn : pc + 3 = n) (k : V G l RX8 cc nL dep lg ret Q n lo (.ref (G.2.2.1 131) :: st) μ) : V G l RX8 cc nL dep lg ret Q pc lo (.ref (G.2.2.1 125) :: st) μ := R_get (ci := 8) (j := 9) rfl inX8 (by decide) rfl tF_RX8_25 sh_125 rfl hdg hn k
theorem gf_X8_60 (hdg : decode cc pc = .ok (.getfield 60, 3)) (hn : pc + 3 = n) (k : V G l RX8 cc nL dep lg ret Q n lo (.int (μ.1 125 10) :: st) μ) : V G l RX8 cc nL dep lg ret Q pc lo (.ref (G.2.2.1 125) :: st) μ := R_get (ci := 8) (j := 10) rfl inX8 (by decide) rfl tF_RX8_60 sh_125 rfl hdg hn k
theorem pf_X8_60 {x : Int32} (hdg : decode cc pc = .ok (.putfield 60, 3)) (hn : pc + 3 = n) (k : V G l RX8 cc nL dep lg ret Q n lo st (sti μ 125 10 x)) : V G l RX8 cc nL dep lg ret Q pc lo (.int x :: .ref (G.2.2.1 125) :: st) μ := R_put (ci := 8) (j := 10) rfl inX8 tyX8_ok nmX8 (by decide) rfl tF_RX8_60 rfl rfl sh_125 rfl hdg hn k
theorem gf_X8_66 (hdg : decode cc pc = .ok (.getfield 66, 3)) (hn : pc + 3 = n) (k : V G l RX8 cc nL dep lg ret Q n lo (.int (μ.1 125 11) :: st) μ) : V G l RX8 cc nL dep lg ret Q pc lo (.ref (G.2.2.1 125) :: st) μ := R_get (ci := 8) (j := 11) rfl inX8 (by decide) rfl tF_RX8_66 sh_125 rfl hdg hn k
theorem pf_X8_66 {x : Int32} (hdg : decode cc pc = .ok (.putfield 66, 3)) (hn : pc + 3 = n) (k : V G l RX8 cc nL dep lg ret Q n lo st (sti μ 125 11 x)) : V G l RX8 cc nL dep lg ret Q pc lo (.int x :: .ref (G.2.2.1 125) :: st) μ := R_put (ci := 8) (j := 11) rfl inX8 tyX8_ok nmX8 (by decide) rfl tF_RX8_66 rfl rfl sh_125 rfl hdg hn k
theorem gf_X8_63 (hdg : decode cc pc = .ok (.getfield 63, 3)) (hn : pc + 3 = n) (k : V G l RX8 cc nL dep lg ret Q n lo (.int (μ.1 125 12) :: st) μ) : V G l RX8 cc nL dep lg ret Q pc lo (.ref (G.2.2.1 125) :: st) μ := R_get (ci := 8) (j := 12) rfl inX8 (by decide) rfl tF_RX8_63 sh_125 rfl hdg hn k
theorem pf_X8_63 {x : Int32} (hdg : decode cc pc = .ok (.putfield 63, 3)) (hn : pc + 3 = n) (k : V G l RX8 cc nL dep lg ret Q n lo st (sti μ 125 12 x)) : V G l RX8 cc nL dep lg ret Q pc lo (.int x :: .ref (G.2.2.1 125) :: st) μ := R_put (ci := 8) (j := 12) rfl inX8 tyX8_ok nmX8 (by decide) rfl tF_RX8_63 rfl rfl sh_125 rfl hdg hn k
theorem gf_X8_28 (hdg : decode cc pc = .ok (.getfield 28, 3)) (hn : pc + 3 = n) (k : V G l RX8 cc nL dep lg ret Q n lo (.ref (G.2.2.1 132) :: st) μ) : V G l RX8 cc nL dep lg ret Q pc lo (.ref (G.2.2.1 125) :: st) μ := R_get (ci := 8) (j := 13) rfl inX8 (by decide) rfl tF_RX8_28 sh_125 rfl hdg hn k
theorem gf_X8_86 (hdg : decode cc pc = .ok (.getfield 86, 3)) (hn : pc + 3 = n) (k : V G l RX8 cc nL dep lg ret Q n lo (.int (μ.1 125 14) :: st) μ) : V G l RX8 cc nL dep lg ret Q pc lo (.ref (G.2.2.1 125) :: st) μ := R_get (ci := 8) (j := 14) rfl inX8 (by decide) rfl tF_RX8_86 sh_125 rfl hdg hn k
theorem pf_X8_86 {x : Int32} (hdg : decode cc pc = .ok (.putfield 86, 3)) (hn : pc + 3 = n) (k : V G l RX8 cc nL dep lg ret Q n lo st (sti μ 125 14 x)) : V G l RX8 cc nL dep lg ret Q pc lo (.int x :: .ref (G.2.2.1 125) :: st) μ := R_put (ci := 8) (j := 14) rfl inX8 tyX8_ok nmX8 (by decide) rfl tF_RX8_86 rfl rfl sh_125 rfl hdg hn k
theorem gf_X8_111 (hdg : decode cc pc = .ok (.getfield 111, 3)) (hn : pc + 3 = n) (k : V G l RX8 cc nL dep lg ret Q n lo (.int (μ.1 125 15) :: st) μ) : V G l RX8 cc nL dep lg ret Q pc lo (.ref (G.2.2.1 125) :: st) μ := R_get (ci := 8) (j := 15) rfl inX8 (by decide) rfl tF_RX8_111 sh_125 rfl hdg hn k
theorem pf_X8_111 {x : Int32} (hdg : decode cc pc = .ok (.putfield 111, 3)) (hn : pc + 3 = n) (k : V G l RX8 cc nL dep lg ret Q n lo st (sti μ 125 15 x)) : V G l RX8 cc nL dep lg ret Q pc lo (.int x :: .ref (G.2.2.1 125) :: st) μ := R_put (ci := 8) (j := 15) rfl inX8 tyX8_ok nmX8 (by decide) rfl tF_RX8_111 rfl rfl sh_125 rfl hdg hn k
theorem gf_X8_31 (hdg : decode cc pc = .ok (.getfield 31, 3)) (hn : pc + 3 = n) (k : V G l RX8 cc nL dep lg ret Q n lo (.ref (G.2.2.1 133) :: st) μ) : V G l RX8 cc nL dep lg ret Q pc lo (.ref (G.2.2.1 125) :: st) μ := R_get (ci := 8) (j := 16) rfl inX8 (by decide) rfl tF_RX8_31 sh_125 rfl hdg hn k
theorem gf_X8_34 (hdg : decode cc pc = .ok (.getfield 34, 3)) (hn : pc + 3 = n) (k : V G l RX8 cc nL dep lg ret Q n lo (.ref (G.2.2.1 134) :: st) μ) : V G l RX8 cc nL dep lg ret Q pc lo (.ref (G.2.2.1 125) :: st) μ := R_get (ci := 8) (j := 17) rfl inX8 (by decide) rfl tF_RX8_34 sh_125 rfl hdg hn k
theorem gf_X8_37 (hdg : decode cc pc = .ok (.getfield 37, 3)) (hn : pc + 3 = n) (k : V G l RX8 cc nL dep lg ret Q n lo (.ref (G.2.2.1 135) :: st) μ) : V G l RX8 cc nL dep lg ret Q pc lo (.ref (G.2.2.1 125) :: st) μ := R_get (ci := 8) (j := 18) rfl inX8 (by decide) rfl tF_RX8_37 sh_125 rfl hdg hn k
theorem gf_X8_40 (hdg : decode cc pc = .ok (.getfield 40, 3)) (hn : pc + 3 = n) (k : V G l RX8 cc nL dep lg ret Q n lo (.ref (G.2.2.1 136) :: st) μ) : V G l RX8 cc nL dep lg ret Q pc lo (.ref (G.2.2.1 125) :: st) μ := R_get (ci := 8) (j := 19) rfl inX8 (by decide) rfl tF_RX8_40 sh_125 rfl hdg hn k
theorem gf_X8_187 (hdg : decode cc pc = .ok (.getfield 187, 3)) (hn : pc + 3 = n) (k : V G l RX8 cc nL dep lg ret Q n lo (.long (μ.2 125) :: st) μ) : V G l RX8 cc nL dep lg ret Q pc lo (.ref (G.2.2.1 125) :: st) μ := R_get (ci := 8) (j := 20) rfl inX8 (by decide) rfl tF_RX8_187 sh_125 rfl hdg hn k
theorem pf_X8_187 {x : Int64} (hdg : decode cc pc = .ok (.putfield 187, 3)) (hn : pc + 3 = n) (k : V G l RX8 cc nL dep lg ret Q n lo st (stl μ 125 x)) : V G l RX8 cc nL dep lg ret Q pc lo (.long x :: .ref (G.2.2.1 125) :: st) μ := R_putl (ci := 8) (j := 20) rfl inX8 tyX8_ok nmX8 (by decide) rfl tF_RX8_187 rfl rfl sh_125 rfl (one_long 23 20 _ rfl (by decide)) hdg hn k
theorem gf_X8_43 (hdg : decode cc pc = .ok (.getfield 43, 3)) (hn : pc + 3 = n) (k : V G l RX8 cc nL dep lg ret Q n lo (.ref (G.2.2.1 137) :: st) μ) : V G l RX8 cc nL dep lg ret Q pc lo (.ref (G.2.2.1 125) :: st) μ := R_get (ci := 8) (j := 21) rfl inX8 (by decide) rfl tF_RX8_43 sh_125 rfl hdg hn k
theorem gf_X8_47 (hdg : decode cc pc = .ok (.getfield 47, 3)) (hn : pc + 3 = n) (k : V G l RX8 cc nL dep lg ret Q n lo (.ref (G.2.2.1 138) :: st) μ) : V G l RX8 cc nL dep lg ret Q pc lo (.ref (G.2.2.1 125) :: st) μ := R_get (ci := 8) (j := 22) rfl inX8 (by decide) rfl tF_RX8_47 sh_125 rfl hdg hn k
theorem ok_yX7_write : okY yX7_write 1 := ⟨by decide +kernel, by decide +kernel, by decide +kernel⟩
theorem iv_L_13 {dep' : Nat} {Qy : Option Value → Mem → Prop} {rest : List Value} {a0 : Value} (hct : Ct G l dep' yX7_write cX7_write 2 (Option.some Jvm.ClassFile.FieldType.int) [Value.ref (G.2.2.1 0), a0] μ Qy) (hd : dep' < dep) (hdg : decode cc pc = .ok (.invokevirtual 13, 3)) (hn : pc + 3 = n) (hrest : (rest.map fun v => v.category).sum ≤ 8) (k : ∀ (r : Option Value) (μ' : Mem), Qy r μ' → V G l RL cc nL dep lg ret Q n lo (r.toList ++ rest) μ') : V G l RL cc nL dep lg ret Q pc lo (a0 :: .ref (G.2.2.1 0) :: rest) μ := R_callV (ci := 7) (id := 0) (As := [a0]) hct hd (by decide) rfl tM_RL_13 tI_yX7_write tS_yX7_write tN_RX7 tC_yX7_write ok_yX7_write rfl rfl sh_0 rfl hrest hdg hn k
theorem ok_yX6_append : okY yX6_append 1 := ⟨by decide +kernel, by decide +kernel, by decide +kernel⟩
theorem iv_X7_55 {dep' : Nat} {Qy : Option Value → Mem → Prop} {rest : List Value} {a0 : Value} (hct : Ct G l dep' yX6_append cX6_append 2 (Option.none : Option Jvm.ClassFile.FieldType) [Value.ref (G.2.2.1 1), a0] μ Qy) (hd : dep' < dep) (hdg : decode cc pc = .ok (.invokevirtual 55, 3)) (hn : pc + 3 = n) (hrest : (rest.map fun v => v.category).sum ≤ 8) (k : ∀ (r : Option Value) (μ' : Mem), Qy r μ' → V G l RX7 cc nL dep lg ret Q n lo (r.toList ++ rest) μ') : V G l RX7 cc nL dep lg ret Q pc lo (a0 :: .ref (G.2.2.1 1) :: rest) μ := R_callV (ci := 6) (id := 1) (As := [a0]) hct hd (by decide) rfl tM_RX7_55 tI_yX6_append tS_yX6_append tN_RX6 tC_yX6_append ok_yX6_append rfl rfl sh_1 rfl hrest hdg hn k
theorem ok_yX7_wipe : okY yX7_wipe 0 := ⟨by decide +kernel, by decide +kernel, by decide +kernel⟩
theorem iv_L_18 {dep' : Nat} {Qy : Option Value → Mem → Prop} {rest : List Value} (hct : Ct G l dep' yX7_wipe cX7_wipe 2 (Option.some Jvm.ClassFile.FieldType.int) [Value.ref (G.2.2.1 0)] μ Qy) (hd : dep' < dep) (hdg : decode cc pc = .ok (.invokevirtual 18, 3)) (hn : pc + 3 = n) (hrest : (rest.map fun v => v.category).sum ≤ 8) (k : ∀ (r : Option Value) (μ' : Mem), Qy r μ' → V G l RL cc nL dep lg ret Q n lo (r.toList ++ rest) μ') : V G l RL cc nL dep lg ret Q pc lo (.ref (G.2.2.1 0) :: rest) μ := R_callV (ci := 7) (id := 0) (As := []) hct hd (by decide) rfl tM_RL_18 tI_yX7_wipe tS_yX7_wipe tN_RX7 tC_yX7_wipe ok_yX7_wipe rfl rfl sh_0 rfl hrest hdg hn k
theorem ok_yX7_fault : okY yX7_fault 0 := ⟨by decide +kernel, by decide +kernel, by decide +kernel⟩
theorem iv_L_23 {dep' : Nat} {Qy : Option Value → Mem → Prop} {rest : List Value} (hct : Ct G l dep' yX7_fault cX7_fault 1 (Option.some Jvm.ClassFile.FieldType.int) [Value.ref (G.2.2.1 0)] μ Qy) (hd : dep' < dep) (hdg : decode cc pc = .ok (.invokevirtual 23, 3)) (hn : pc + 3 = n) (hrest : (rest.map fun v => v.category).sum ≤ 8) (k : ∀ (r : Option Value) (μ' : Mem), Qy r μ' → V G l RL cc nL dep lg ret Q n lo (r.toList ++ rest) μ') : V G l RL cc nL dep lg ret Q pc lo (.ref (G.2.2.1 0) :: rest) μ := R_callV (ci := 7) (id := 0) (As := []) hct hd (by decide) rfl tM_RL_23 tI_yX7_fault tS_yX7_fault tN_RX7 tC_yX7_fault ok_yX7_fault rfl rfl sh_0 rfl hrest hdg hn k
theorem ok_yX6_faultPlace : okY yX6_faultPlace 0 := ⟨by decide +kernel, by decide +kernel, by decide +kernel⟩
theorem iv_X7_59 {dep' : Nat} {Qy : Option Value → Mem → Prop} {rest : List Value} (hct : Ct G l dep' yX6_faultPlace cX6_faultPlace 6 (Option.some Jvm.ClassFile.FieldType.int) [Value.ref (G.2.2.1 1)] μ Qy) (hd : dep' < dep) (hdg : decode cc pc = .ok (.invokevirtual 59, 3)) (hn : pc + 3 = n) (hrest : (rest.map fun v => v.category).sum ≤ 8) (k : ∀ (r : Option Value) (μ' : Mem), Qy r μ' → V G l RX7 cc nL dep lg ret Q n lo (r.toList ++ rest) μ') : V G l RX7 cc nL dep lg ret Q pc lo (.ref (G.2.2.1 1) :: rest) μ := R_callV (ci := 6) (id := 1) (As := []) hct hd (by decide) rfl tM_RX7_59 tI_yX6_faultPlace tS_yX6_faultPlace tN_RX6 tC_yX6_faultPlace ok_yX6_faultPlace rfl rfl sh_1 rfl hrest hdg hn k
theorem ok_yX6_dueBehind : okY yX6_dueBehind 2 := ⟨by decide +kernel, by decide +kernel, by decide +kernel⟩
theorem iv_X6_19 {dep' : Nat} {Qy : Option Value → Mem → Prop} {rest : List Value} {a0 a1 : Value} (hct : Ct G l dep' yX6_dueBehind cX6_dueBehind 2 (Option.some Jvm.ClassFile.FieldType.int) [a0, a1] μ Qy) (hd : dep' < dep) (hdg : decode cc pc = .ok (.invokestatic 19, 3)) (hn : pc + 3 = n) (hrest : (rest.map fun v => v.category).sum ≤ 8) (k : ∀ (r : Option Value) (μ' : Mem), Qy r μ' → V G l RX6 cc nL dep lg ret Q n lo (r.toList ++ rest) μ') : V G l RX6 cc nL dep lg ret Q pc lo (a1 :: a0 :: rest) μ := R_callS hct hd (by decide) tM_RX6_19 tT_yX6_dueBehind tN_RX6 tC_yX6_dueBehind ok_yX6_dueBehind rfl rfl hrest hdg hn k
theorem ok_yX7_canal : okY yX7_canal 0 := ⟨by decide +kernel, by decide +kernel, by decide +kernel⟩
theorem iv_L_27 {dep' : Nat} {Qy : Option Value → Mem → Prop} {rest : List Value} (hct : Ct G l dep' yX7_canal cX7_canal 1 (Option.some Jvm.ClassFile.FieldType.int) [Value.ref (G.2.2.1 0)] μ Qy) (hd : dep' < dep) (hdg : decode cc pc = .ok (.invokevirtual 27, 3)) (hn : pc + 3 = n) (hrest : (rest.map fun v => v.category).sum ≤ 8) (k : ∀ (r : Option Value) (μ' : Mem), Qy r μ' → V G l RL cc nL dep lg ret Q n lo (r.toList ++ rest) μ') : V G l RL cc nL dep lg ret Q pc lo (.ref (G.2.2.1 0) :: rest) μ := R_callV (ci := 7) (id := 0) (As := []) hct hd (by decide) rfl tM_RL_27 tI_yX7_canal tS_yX7_canal tN_RX7 tC_yX7_canal ok_yX7_canal rfl rfl sh_0 rfl hrest hdg hn k
theorem ok_yX1_makeFrom : okY yX1_makeFrom 1 := ⟨by decide +kernel, by decide +kernel, by decide +kernel⟩
theorem iv_X7_63 {dep' : Nat} {Qy : Option Value → Mem → Prop} {rest : List Value} {a0 : Value} (hct : Ct G l dep' yX1_makeFrom cX1_makeFrom 4 (Option.none : Option Jvm.ClassFile.FieldType) [Value.ref (G.2.2.1 3), a0] μ Qy) (hd : dep' < dep) (hdg : decode cc pc = .ok (.invokevirtual 63, 3)) (hn : pc + 3 = n) (hrest : (rest.map fun v => v.category).sum ≤ 8) (k : ∀ (r : Option Value) (μ' : Mem), Qy r μ' → V G l RX7 cc nL dep lg ret Q n lo (r.toList ++ rest) μ') : V G l RX7 cc nL dep lg ret Q pc lo (a0 :: .ref (G.2.2.1 3) :: rest) μ := R_callV (ci := 1) (id := 3) (As := [a0]) hct hd (by decide) rfl tM_RX7_63 tI_yX1_makeFrom tS_yX1_makeFrom tN_RX1 tC_yX1_makeFrom ok_yX1_makeFrom rfl rfl sh_3 rfl hrest hdg hn k
theorem ok_yX5_clearAll : okY yX5_clearAll 0 := ⟨by decide +kernel, by decide +kernel, by decide +kernel⟩
theorem iv_X1_35 {dep' : Nat} {Qy : Option Value → Mem → Prop} {rest : List Value} {id : Nat} (hct : Ct G l dep' yX5_clearAll cX5_clearAll 2 (Option.none : Option Jvm.ClassFile.FieldType) [Value.ref (G.2.2.1 id)] μ Qy) (hs : StB id) (hd : dep' < dep) (hdg : decode cc pc = .ok (.invokevirtual 35, 3)) (hn : pc + 3 = n) (hrest : (rest.map fun v => v.category).sum ≤ 8) (k : ∀ (r : Option Value) (μ' : Mem), Qy r μ' → V G l RX1 cc nL dep lg ret Q n lo (r.toList ++ rest) μ') : V G l RX1 cc nL dep lg ret Q pc lo (.ref (G.2.2.1 id) :: rest) μ := R_callV (ci := 5) (id := id) (As := []) hct hd (by decide) rfl tM_RX1_35 tI_yX5_clearAll tS_yX5_clearAll tN_RX5 tC_yX5_clearAll ok_yX5_clearAll rfl rfl hs.1 rfl hrest hdg hn k
theorem ok_yX5_clearHours : okY yX5_clearHours 0 := ⟨by decide +kernel, by decide +kernel, by decide +kernel⟩
theorem iv_X5_40 {dep' : Nat} {Qy : Option Value → Mem → Prop} {rest : List Value} {id : Nat} (hct : Ct G l dep' yX5_clearHours cX5_clearHours 2 (Option.none : Option Jvm.ClassFile.FieldType) [Value.ref (G.2.2.1 id)] μ Qy) (hs : StB id) (hd : dep' < dep) (hdg : decode cc pc = .ok (.invokevirtual 40, 3)) (hn : pc + 3 = n) (hrest : (rest.map fun v => v.category).sum ≤ 8) (k : ∀ (r : Option Value) (μ' : Mem), Qy r μ' → V G l RX5 cc nL dep lg ret Q n lo (r.toList ++ rest) μ') : V G l RX5 cc nL dep lg ret Q pc lo (.ref (G.2.2.1 id) :: rest) μ := R_callV (ci := 5) (id := id) (As := []) hct hd (by decide) rfl tM_RX5_40 tI_yX5_clearHours tS_yX5_clearHours tN_RX5 tC_yX5_clearHours ok_yX5_clearHours rfl rfl hs.1 rfl hrest hdg hn k
theorem ok_yX6_figureAt : okY yX6_figureAt 1 := ⟨by decide +kernel, by decide +kernel, by decide +kernel⟩
theorem iv_X1_49 {dep' : Nat} {Qy : Option Value → Mem → Prop} {rest : List Value} {a0 : Value} (hct : Ct G l dep' yX6_figureAt cX6_figureAt 2 (Option.some Jvm.ClassFile.FieldType.int) [Value.ref (G.2.2.1 1), a0] μ Qy) (hd : dep' < dep) (hdg : decode cc pc = .ok (.invokevirtual 49, 3)) (hn : pc + 3 = n) (hrest : (rest.map fun v => v.category).sum ≤ 8) (k : ∀ (r : Option Value) (μ' : Mem), Qy r μ' → V G l RX1 cc nL dep lg ret Q n lo (r.toList ++ rest) μ') : V G l RX1 cc nL dep lg ret Q pc lo (a0 :: .ref (G.2.2.1 1) :: rest) μ := R_callV (ci := 6) (id := 1) (As := [a0]) hct hd (by decide) rfl tM_RX1_49 tI_yX6_figureAt tS_yX6_figureAt tN_RX6 tC_yX6_figureAt ok_yX6_figureAt rfl rfl sh_1 rfl hrest hdg hn k
theorem ok_yX0_forgetAll : okY yX0_forgetAll 0 := ⟨by decide +kernel, by decide +kernel, by decide +kernel⟩
theorem iv_X7_67 {dep' : Nat} {Qy : Option Value → Mem → Prop} {rest : List Value} (hct : Ct G l dep' yX0_forgetAll cX0_forgetAll 1 (Option.none : Option Jvm.ClassFile.FieldType) [Value.ref (G.2.2.1 18)] μ Qy) (hd : dep' < dep) (hdg : decode cc pc = .ok (.invokevirtual 67, 3)) (hn : pc + 3 = n) (hrest : (rest.map fun v => v.category).sum ≤ 8) (k : ∀ (r : Option Value) (μ' : Mem), Qy r μ' → V G l RX7 cc nL dep lg ret Q n lo (r.toList ++ rest) μ') : V G l RX7 cc nL dep lg ret Q pc lo (.ref (G.2.2.1 18) :: rest) μ := R_callV (ci := 0) (id := 18) (As := []) hct hd (by decide) rfl tM_RX7_67 tI_yX0_forgetAll tS_yX0_forgetAll tN_RX0 tC_yX0_forgetAll ok_yX0_forgetAll rfl rfl sh_18 rfl hrest hdg hn k
theorem ok_yX4_forgetAll : okY yX4_forgetAll 0 := ⟨by decide +kernel, by decide +kernel, by decide +kernel⟩
theorem iv_X7_70 {dep' : Nat} {Qy : Option Value → Mem → Prop} {rest : List Value} (hct : Ct G l dep' yX4_forgetAll cX4_forgetAll 2 (Option.none : Option Jvm.ClassFile.FieldType) [Value.ref (G.2.2.1 104)] μ Qy) (hd : dep' < dep) (hdg : decode cc pc = .ok (.invokevirtual 70, 3)) (hn : pc + 3 = n) (hrest : (rest.map fun v => v.category).sum ≤ 8) (k : ∀ (r : Option Value) (μ' : Mem), Qy r μ' → V G l RX7 cc nL dep lg ret Q n lo (r.toList ++ rest) μ') : V G l RX7 cc nL dep lg ret Q pc lo (.ref (G.2.2.1 104) :: rest) μ := R_callV (ci := 4) (id := 104) (As := []) hct hd (by decide) rfl tM_RX7_70 tI_yX4_forgetAll tS_yX4_forgetAll tN_RX4 tC_yX4_forgetAll ok_yX4_forgetAll rfl rfl sh_104 rfl hrest hdg hn k
theorem ok_yX7_barge : okY yX7_barge 2 := ⟨by decide +kernel, by decide +kernel, by decide +kernel⟩
theorem iv_L_31 {dep' : Nat} {Qy : Option Value → Mem → Prop} {rest : List Value} {a0 a1 : Value} (hct : Ct G l dep' yX7_barge cX7_barge 3 (Option.some Jvm.ClassFile.FieldType.int) [Value.ref (G.2.2.1 0), a0, a1] μ Qy) (hd : dep' < dep) (hdg : decode cc pc = .ok (.invokevirtual 31, 3)) (hn : pc + 3 = n) (hrest : (rest.map fun v => v.category).sum ≤ 8) (k : ∀ (r : Option Value) (μ' : Mem), Qy r μ' → V G l RL cc nL dep lg ret Q n lo (r.toList ++ rest) μ') : V G l RL cc nL dep lg ret Q pc lo (a1 :: a0 :: .ref (G.2.2.1 0) :: rest) μ := R_callV (ci := 7) (id := 0) (As := [a0, a1]) hct hd (by decide) rfl tM_RL_31 tI_yX7_barge tS_yX7_barge tN_RX7 tC_yX7_barge ok_yX7_barge rfl rfl sh_0 rfl hrest hdg hn k
theorem ok_yX1_hasBarge : okY yX1_hasBarge 1 := ⟨by decide +kernel, by decide +kernel, by decide +kernel⟩
theorem iv_X7_77 {dep' : Nat} {Qy : Option Value → Mem → Prop} {rest : List Value} {a0 : Value} (hct : Ct G l dep' yX1_hasBarge cX1_hasBarge 2 (Option.some Jvm.ClassFile.FieldType.boolean) [Value.ref (G.2.2.1 3), a0] μ Qy) (hd : dep' < dep) (hdg : decode cc pc = .ok (.invokevirtual 77, 3)) (hn : pc + 3 = n) (hrest : (rest.map fun v => v.category).sum ≤ 8) (k : ∀ (r : Option Value) (μ' : Mem), Qy r μ' → V G l RX7 cc nL dep lg ret Q n lo (r.toList ++ rest) μ') : V G l RX7 cc nL dep lg ret Q pc lo (a0 :: .ref (G.2.2.1 3) :: rest) μ := R_callV (ci := 1) (id := 3) (As := [a0]) hct hd (by decide) rfl tM_RX7_77 tI_yX1_hasBarge tS_yX1_hasBarge tN_RX1 tC_yX1_hasBarge ok_yX1_hasBarge rfl rfl sh_3 rfl hrest hdg hn k
theorem ok_yX5_placeOf : okY yX5_placeOf 1 := ⟨by decide +kernel, by decide +kernel, by decide +kernel⟩
theorem iv_X7_97 {dep' : Nat} {Qy : Option Value → Mem → Prop} {rest : List Value} {a0 : Value} {id : Nat} (hct : Ct G l dep' yX5_placeOf cX5_placeOf 3 (Option.some Jvm.ClassFile.FieldType.int) [Value.ref (G.2.2.1 id), a0] μ Qy) (hs : StB id) (hd : dep' < dep) (hdg : decode cc pc = .ok (.invokevirtual 97, 3)) (hn : pc + 3 = n) (hrest : (rest.map fun v => v.category).sum ≤ 8) (k : ∀ (r : Option Value) (μ' : Mem), Qy r μ' → V G l RX7 cc nL dep lg ret Q n lo (r.toList ++ rest) μ') : V G l RX7 cc nL dep lg ret Q pc lo (a0 :: .ref (G.2.2.1 id) :: rest) μ := R_callV (ci := 5) (id := id) (As := [a0]) hct hd (by decide) rfl tM_RX7_97 tI_yX5_placeOf tS_yX5_placeOf tN_RX5 tC_yX5_placeOf ok_yX5_placeOf rfl rfl hs.1 rfl hrest hdg hn k
theorem ok_yX7_lock : okY yX7_lock 2 := ⟨by decide +kernel, by decide +kernel, by decide +kernel⟩
theorem iv_L_36 {dep' : Nat} {Qy : Option Value → Mem → Prop} {rest : List Value} {a0 a1 : Value} (hct : Ct G l dep' yX7_lock cX7_lock 3 (Option.some Jvm.ClassFile.FieldType.int) [Value.ref (G.2.2.1 0), a0, a1] μ Qy) (hd : dep' < dep) (hdg : decode cc pc = .ok (.invokevirtual 36, 3)) (hn : pc + 3 = n) (hrest : (rest.map fun v => v.category).sum ≤ 8) (k : ∀ (r : Option Value) (μ' : Mem), Qy r μ' → V G l RL cc nL dep lg ret Q n lo (r.toList ++ rest) μ') : V G l RL cc nL dep lg ret Q pc lo (a1 :: a0 :: .ref (G.2.2.1 0) :: rest) μ := R_callV (ci := 7) (id := 0) (As := [a0, a1]) hct hd (by decide) rfl tM_RL_36 tI_yX7_lock tS_yX7_lock tN_RX7 tC_yX7_lock ok_yX7_lock rfl rfl sh_0 rfl hrest hdg hn k
theorem ok_yX1_hasLock : okY yX1_hasLock 1 := ⟨by decide +kernel, by decide +kernel, by decide +kernel⟩
theorem iv_X7_104 {dep' : Nat} {Qy : Option Value → Mem → Prop} {rest : List Value} {a0 : Value} (hct : Ct G l dep' yX1_hasLock cX1_hasLock 2 (Option.some Jvm.ClassFile.FieldType.boolean) [Value.ref (G.2.2.1 3), a0] μ Qy) (hd : dep' < dep) (hdg : decode cc pc = .ok (.invokevirtual 104, 3)) (hn : pc + 3 = n) (hrest : (rest.map fun v => v.category).sum ≤ 8) (k : ∀ (r : Option Value) (μ' : Mem), Qy r μ' → V G l RX7 cc nL dep lg ret Q n lo (r.toList ++ rest) μ') : V G l RX7 cc nL dep lg ret Q pc lo (a0 :: .ref (G.2.2.1 3) :: rest) μ := R_callV (ci := 1) (id := 3) (As := [a0]) hct hd (by decide) rfl tM_RX7_104 tI_yX1_hasLock tS_yX1_hasLock tN_RX1 tC_yX1_hasLock ok_yX1_hasLock rfl rfl sh_3 rfl hrest hdg hn k
theorem ok_yX1_isPassed : okY yX1_isPassed 1 := ⟨by decide +kernel, by decide +kernel, by decide +kernel⟩
theorem iv_X7_110 {dep' : Nat} {Qy : Option Value → Mem → Prop} {rest : List Value} {a0 : Value} (hct : Ct G l dep' yX1_isPassed cX1_isPassed 2 (Option.some Jvm.ClassFile.FieldType.boolean) [Value.ref (G.2.2.1 3), a0] μ Qy) (hd : dep' < dep) (hdg : decode cc pc = .ok (.invokevirtual 110, 3)) (hn : pc + 3 = n) (hrest : (rest.map fun v => v.category).sum ≤ 8) (k : ∀ (r : Option Value) (μ' : Mem), Qy r μ' → V G l RX7 cc nL dep lg ret Q n lo (r.toList ++ rest) μ') : V G l RX7 cc nL dep lg ret Q pc lo (a0 :: .ref (G.2.2.1 3) :: rest) μ := R_callV (ci := 1) (id := 3) (As := [a0]) hct hd (by decide) rfl tM_RX7_110 tI_yX1_isPassed tS_yX1_isPassed tN_RX1 tC_yX1_isPassed ok_yX1_isPassed rfl rfl sh_3 rfl hrest hdg hn k
theorem ok_yX5_loadsAt : okY yX5_loadsAt 1 := ⟨by decide +kernel, by decide +kernel, by decide +kernel⟩
theorem iv_X7_113 {dep' : Nat} {Qy : Option Value → Mem → Prop} {rest : List Value} {a0 : Value} {id : Nat} (hct : Ct G l dep' yX5_loadsAt cX5_loadsAt 4 (Option.some Jvm.ClassFile.FieldType.int) [Value.ref (G.2.2.1 id), a0] μ Qy) (hs : StB id) (hd : dep' < dep) (hdg : decode cc pc = .ok (.invokevirtual 113, 3)) (hn : pc + 3 = n) (hrest : (rest.map fun v => v.category).sum ≤ 8) (k : ∀ (r : Option Value) (μ' : Mem), Qy r μ' → V G l RX7 cc nL dep lg ret Q n lo (r.toList ++ rest) μ') : V G l RX7 cc nL dep lg ret Q pc lo (a0 :: .ref (G.2.2.1 id) :: rest) μ := R_callV (ci := 5) (id := id) (As := [a0]) hct hd (by decide) rfl tM_RX7_113 tI_yX5_loadsAt tS_yX5_loadsAt tN_RX5 tC_yX5_loadsAt ok_yX5_loadsAt rfl rfl hs.1 rfl hrest hdg hn k
theorem ok_yX5_loadsOf : okY yX5_loadsOf 2 := ⟨by decide +kernel, by decide +kernel, by decide +kernel⟩
theorem iv_X5_49 {dep' : Nat} {Qy : Option Value → Mem → Prop} {rest : List Value} {a0 a1 : Value} {id : Nat} (hct : Ct G l dep' yX5_loadsOf cX5_loadsOf 3 (Option.some Jvm.ClassFile.FieldType.int) [Value.ref (G.2.2.1 id), a0, a1] μ Qy) (hs : StB id) (hd : dep' < dep) (hdg : decode cc pc = .ok (.invokevirtual 49, 3)) (hn : pc + 3 = n) (hrest : (rest.map fun v => v.category).sum ≤ 8) (k : ∀ (r : Option Value) (μ' : Mem), Qy r μ' → V G l RX5 cc nL dep lg ret Q n lo (r.toList ++ rest) μ') : V G l RX5 cc nL dep lg ret Q pc lo (a1 :: a0 :: .ref (G.2.2.1 id) :: rest) μ := R_callV (ci := 5) (id := id) (As := [a0, a1]) hct hd (by decide) rfl tM_RX5_49 tI_yX5_loadsOf tS_yX5_loadsOf tN_RX5 tC_yX5_loadsOf ok_yX5_loadsOf rfl rfl hs.1 rfl hrest hdg hn k
theorem ok_yX7_pass : okY yX7_pass 0 := ⟨by decide +kernel, by decide +kernel, by decide +kernel⟩
theorem iv_L_40 {dep' : Nat} {Qy : Option Value → Mem → Prop} {rest : List Value} (hct : Ct G l dep' yX7_pass cX7_pass 1 (Option.some Jvm.ClassFile.FieldType.int) [Value.ref (G.2.2.1 0)] μ Qy) (hd : dep' < dep) (hdg : decode cc pc = .ok (.invokevirtual 40, 3)) (hn : pc + 3 = n) (hrest : (rest.map fun v => v.category).sum ≤ 8) (k : ∀ (r : Option Value) (μ' : Mem), Qy r μ' → V G l RL cc nL dep lg ret Q n lo (r.toList ++ rest) μ') : V G l RL cc nL dep lg ret Q pc lo (.ref (G.2.2.1 0) :: rest) μ := R_callV (ci := 7) (id := 0) (As := []) hct hd (by decide) rfl tM_RL_40 tI_yX7_pass tS_yX7_pass tN_RX7 tC_yX7_pass ok_yX7_pass rfl rfl sh_0 rfl hrest hdg hn k
theorem ok_yX1_locksLeft : okY yX1_locksLeft 0 := ⟨by decide +kernel, by decide +kernel, by decide +kernel⟩
theorem iv_X7_116 {dep' : Nat} {Qy : Option Value → Mem → Prop} {rest : List Value} (hct : Ct G l dep' yX1_locksLeft cX1_locksLeft 1 (Option.some Jvm.ClassFile.FieldType.int) [Value.ref (G.2.2.1 3)] μ Qy) (hd : dep' < dep) (hdg : decode cc pc = .ok (.invokevirtual 116, 3)) (hn : pc + 3 = n) (hrest : (rest.map fun v => v.category).sum ≤ 8) (k : ∀ (r : Option Value) (μ' : Mem), Qy r μ' → V G l RX7 cc nL dep lg ret Q n lo (r.toList ++ rest) μ') : V G l RX7 cc nL dep lg ret Q pc lo (.ref (G.2.2.1 3) :: rest) μ := R_callV (ci := 1) (id := 3) (As := []) hct hd (by decide) rfl tM_RX7_116 tI_yX1_locksLeft tS_yX1_locksLeft tN_RX1 tC_yX1_locksLeft ok_yX1_locksLeft rfl rfl sh_3 rfl hrest hdg hn k
theorem ok_yX0_remember : okY yX0_remember 1 := ⟨by decide +kernel, by decide +kernel, by decide +kernel⟩
theorem iv_X7_119 {dep' : Nat} {Qy : Option Value → Mem → Prop} {rest : List Value} {a0 : Value} (hct : Ct G l dep' yX0_remember cX0_remember 2 (Option.none : Option Jvm.ClassFile.FieldType) [Value.ref (G.2.2.1 18), a0] μ Qy) (hd : dep' < dep) (hdg : decode cc pc = .ok (.invokevirtual 119, 3)) (hn : pc + 3 = n) (hrest : (rest.map fun v => v.category).sum ≤ 8) (k : ∀ (r : Option Value) (μ' : Mem), Qy r μ' → V G l RX7 cc nL dep lg ret Q n lo (r.toList ++ rest) μ') : V G l RX7 cc nL dep lg ret Q pc lo (a0 :: .ref (G.2.2.1 18) :: rest) μ := R_callV (ci := 0) (id := 18) (As := [a0]) hct hd (by decide) rfl tM_RX7_119 tI_yX0_remember tS_yX0_remember tN_RX0 tC_yX0_remember ok_yX0_remember rfl rfl sh_18 rfl hrest hdg hn k
theorem ok_yX5_copyFrom : okY yX5_copyFrom 1 := ⟨by decide +kernel, by decide +kernel, by decide +kernel⟩
theorem iv_X0_25 {dep' : Nat} {Qy : Option Value → Mem → Prop} {rest : List Value} {a0 : Value} {id : Nat} (hct : Ct G l dep' yX5_copyFrom cX5_copyFrom 2 (Option.none : Option Jvm.ClassFile.FieldType) [Value.ref (G.2.2.1 id), a0] μ Qy) (hs : StB id) (hd : dep' < dep) (hdg : decode cc pc = .ok (.invokevirtual 25, 3)) (hn : pc + 3 = n) (hrest : (rest.map fun v => v.category).sum ≤ 8) (k : ∀ (r : Option Value) (μ' : Mem), Qy r μ' → V G l RX0 cc nL dep lg ret Q n lo (r.toList ++ rest) μ') : V G l RX0 cc nL dep lg ret Q pc lo (a0 :: .ref (G.2.2.1 id) :: rest) μ := R_callV (ci := 5) (id := id) (As := [a0]) hct hd (by decide) rfl tM_RX0_25 tI_yX5_copyFrom tS_yX5_copyFrom tN_RX5 tC_yX5_copyFrom ok_yX5_copyFrom rfl rfl hs.1 rfl hrest hdg hn k
theorem ok_yX1_goThroughNext : okY yX1_goThroughNext 1 := ⟨by decide +kernel, by decide +kernel, by decide +kernel⟩
theorem iv_X7_123 {dep' : Nat} {Qy : Option Value → Mem → Prop} {rest : List Value} {a0 : Value} (hct : Ct G l dep' yX1_goThroughNext cX1_goThroughNext 8 (Option.none : Option Jvm.ClassFile.FieldType) [Value.ref (G.2.2.1 3), a0] μ Qy) (hd : dep' < dep) (hdg : decode cc pc = .ok (.invokevirtual 123, 3)) (hn : pc + 3 = n) (hrest : (rest.map fun v => v.category).sum ≤ 8) (k : ∀ (r : Option Value) (μ' : Mem), Qy r μ' → V G l RX7 cc nL dep lg ret Q n lo (r.toList ++ rest) μ') : V G l RX7 cc nL dep lg ret Q pc lo (a0 :: .ref (G.2.2.1 3) :: rest) μ := R_callV (ci := 1) (id := 3) (As := [a0]) hct hd (by decide) rfl tM_RX7_123 tI_yX1_goThroughNext tS_yX1_goThroughNext tN_RX1 tC_yX1_goThroughNext ok_yX1_goThroughNext rfl rfl sh_3 rfl hrest hdg hn k
theorem iv_X1_80 {dep' : Nat} {Qy : Option Value → Mem → Prop} {rest : List Value} {a0 : Value} (hct : Ct G l dep' yX1_hasLock cX1_hasLock 2 (Option.some Jvm.ClassFile.FieldType.boolean) [Value.ref (G.2.2.1 3), a0] μ Qy) (hd : dep' < dep) (hdg : decode cc pc = .ok (.invokevirtual 80, 3)) (hn : pc + 3 = n) (hrest : (rest.map fun v => v.category).sum ≤ 8) (k : ∀ (r : Option Value) (μ' : Mem), Qy r μ' → V G l RX1 cc nL dep lg ret Q n lo (r.toList ++ rest) μ') : V G l RX1 cc nL dep lg ret Q pc lo (a0 :: .ref (G.2.2.1 3) :: rest) μ := R_callV (ci := 1) (id := 3) (As := [a0]) hct hd (by decide) rfl tM_RX1_80 tI_yX1_hasLock tS_yX1_hasLock tN_RX1 tC_yX1_hasLock ok_yX1_hasLock rfl rfl sh_3 rfl hrest hdg hn k
theorem ok_yX1_holdsTwo : okY yX1_holdsTwo 2 := ⟨by decide +kernel, by decide +kernel, by decide +kernel⟩
theorem iv_X1_84 {dep' : Nat} {Qy : Option Value → Mem → Prop} {rest : List Value} {a0 a1 : Value} (hct : Ct G l dep' yX1_holdsTwo cX1_holdsTwo 3 (Option.some Jvm.ClassFile.FieldType.boolean) [Value.ref (G.2.2.1 3), a0, a1] μ Qy) (hd : dep' < dep) (hdg : decode cc pc = .ok (.invokevirtual 84, 3)) (hn : pc + 3 = n) (hrest : (rest.map fun v => v.category).sum ≤ 8) (k : ∀ (r : Option Value) (μ' : Mem), Qy r μ' → V G l RX1 cc nL dep lg ret Q n lo (r.toList ++ rest) μ') : V G l RX1 cc nL dep lg ret Q pc lo (a1 :: a0 :: .ref (G.2.2.1 3) :: rest) μ := R_callV (ci := 1) (id := 3) (As := [a0, a1]) hct hd (by decide) rfl tM_RX1_84 tI_yX1_holdsTwo tS_yX1_holdsTwo tN_RX1 tC_yX1_holdsTwo ok_yX1_holdsTwo rfl rfl sh_3 rfl hrest hdg hn k
theorem ok_yJ9_max_7cf53 : okY yJ9_max_7cf53 2 := ⟨by decide +kernel, by decide +kernel, by decide +kernel⟩
theorem iv_X1_91 {dep' : Nat} {Qy : Option Value → Mem → Prop} {rest : List Value} {a0 a1 : Value} (hct : Ct G l dep' yJ9_max_7cf53 cJ9_max_7cf53 2 (Option.some Jvm.ClassFile.FieldType.int) [a0, a1] μ Qy) (hd : dep' < dep) (hdg : decode cc pc = .ok (.invokestatic 91, 3)) (hn : pc + 3 = n) (hrest : (rest.map fun v => v.category).sum ≤ 8) (k : ∀ (r : Option Value) (μ' : Mem), Qy r μ' → V G l RX1 cc nL dep lg ret Q n lo (r.toList ++ rest) μ') : V G l RX1 cc nL dep lg ret Q pc lo (a1 :: a0 :: rest) μ := R_callS hct hd (by decide) tM_RX1_91 tT_yJ9_max_7cf53 tN_RJ9 tC_yJ9_max_7cf53 ok_yJ9_max_7cf53 rfl rfl hrest hdg hn k
theorem ok_yX1_isSecondFirst : okY yX1_isSecondFirst 4 := ⟨by decide +kernel, by decide +kernel, by decide +kernel⟩
theorem iv_X1_97 {dep' : Nat} {Qy : Option Value → Mem → Prop} {rest : List Value} {a0 a1 a2 a3 : Value} (hct : Ct G l dep' yX1_isSecondFirst cX1_isSecondFirst 5 (Option.some Jvm.ClassFile.FieldType.boolean) [Value.ref (G.2.2.1 3), a0, a1, a2, a3] μ Qy) (hd : dep' < dep) (hdg : decode cc pc = .ok (.invokevirtual 97, 3)) (hn : pc + 3 = n) (hrest : (rest.map fun v => v.category).sum ≤ 8) (k : ∀ (r : Option Value) (μ' : Mem), Qy r μ' → V G l RX1 cc nL dep lg ret Q n lo (r.toList ++ rest) μ') : V G l RX1 cc nL dep lg ret Q pc lo (a3 :: a2 :: a1 :: a0 :: .ref (G.2.2.1 3) :: rest) μ := R_callV (ci := 1) (id := 3) (As := [a0, a1, a2, a3]) hct hd (by decide) rfl tM_RX1_97 tI_yX1_isSecondFirst tS_yX1_isSecondFirst tN_RX1 tC_yX1_isSecondFirst ok_yX1_isSecondFirst rfl rfl sh_3 rfl hrest hdg hn k
theorem iv_X1_105 {dep' : Nat} {Qy : Option Value → Mem → Prop} {rest : List Value} {a0 a1 : Value} {id : Nat} (hct : Ct G l dep' yX5_loadsOf cX5_loadsOf 3 (Option.some Jvm.ClassFile.FieldType.int) [Value.ref (G.2.2.1 id), a0, a1] μ Qy) (hs : StB id) (hd : dep' < dep) (hdg : decode cc pc = .ok (.invokevirtual 105, 3)) (hn : pc + 3 = n) (hrest : (rest.map fun v => v.category).sum ≤ 8) (k : ∀ (r : Option Value) (μ' : Mem), Qy r μ' → V G l RX1 cc nL dep lg ret Q n lo (r.toList ++ rest) μ') : V G l RX1 cc nL dep lg ret Q pc lo (a1 :: a0 :: .ref (G.2.2.1 id) :: rest) μ := R_callV (ci := 5) (id := id) (As := [a0, a1]) hct hd (by decide) rfl tM_RX1_105 tI_yX5_loadsOf tS_yX5_loadsOf tN_RX5 tC_yX5_loadsOf ok_yX5_loadsOf rfl rfl hs.1 rfl hrest hdg hn k
theorem ok_yX5_turn : okY yX5_turn 1 := ⟨by decide +kernel, by decide +kernel, by decide +kernel⟩
theorem iv_X1_101 {dep' : Nat} {Qy : Option Value → Mem → Prop} {rest : List Value} {a0 : Value} {id : Nat} (hct : Ct G l dep' yX5_turn cX5_turn 3 (Option.none : Option Jvm.ClassFile.FieldType) [Value.ref (G.2.2.1 id), a0] μ Qy) (hs : StB id) (hd : dep' < dep) (hdg : decode cc pc = .ok (.invokevirtual 101, 3)) (hn : pc + 3 = n) (hrest : (rest.map fun v => v.category).sum ≤ 8) (k : ∀ (r : Option Value) (μ' : Mem), Qy r μ' → V G l RX1 cc nL dep lg ret Q n lo (r.toList ++ rest) μ') : V G l RX1 cc nL dep lg ret Q pc lo (a0 :: .ref (G.2.2.1 id) :: rest) μ := R_callV (ci := 5) (id := id) (As := [a0]) hct hd (by decide) rfl tM_RX1_101 tI_yX5_turn tS_yX5_turn tN_RX5 tC_yX5_turn ok_yX5_turn rfl rfl hs.1 rfl hrest hdg hn k
theorem ok_yX5_figures : okY yX5_figures 0 := ⟨by decide +kernel, by decide +kernel, by decide +kernel⟩
theorem iv_X7_126 {dep' : Nat} {Qy : Option Value → Mem → Prop} {rest : List Value} {id : Nat} (hct : Ct G l dep' yX5_figures cX5_figures 3 (Option.some Jvm.ClassFile.FieldType.int) [Value.ref (G.2.2.1 id)] μ Qy) (hs : StB id) (hd : dep' < dep) (hdg : decode cc pc = .ok (.invokevirtual 126, 3)) (hn : pc + 3 = n) (hrest : (rest.map fun v => v.category).sum ≤ 8) (k : ∀ (r : Option Value) (μ' : Mem), Qy r μ' → V G l RX7 cc nL dep lg ret Q n lo (r.toList ++ rest) μ') : V G l RX7 cc nL dep lg ret Q pc lo (.ref (G.2.2.1 id) :: rest) μ := R_callV (ci := 5) (id := id) (As := []) hct hd (by decide) rfl tM_RX7_126 tI_yX5_figures tS_yX5_figures tN_RX5 tC_yX5_figures ok_yX5_figures rfl rfl hs.1 rfl hrest hdg hn k
theorem ok_yX7_give : okY yX7_give 2 := ⟨by decide +kernel, by decide +kernel, by decide +kernel⟩
theorem iv_L_44 {dep' : Nat} {Qy : Option Value → Mem → Prop} {rest : List Value} {a0 a1 : Value} (hct : Ct G l dep' yX7_give cX7_give 3 (Option.some Jvm.ClassFile.FieldType.int) [Value.ref (G.2.2.1 0), a0, a1] μ Qy) (hd : dep' < dep) (hdg : decode cc pc = .ok (.invokevirtual 44, 3)) (hn : pc + 3 = n) (hrest : (rest.map fun v => v.category).sum ≤ 8) (k : ∀ (r : Option Value) (μ' : Mem), Qy r μ' → V G l RL cc nL dep lg ret Q n lo (r.toList ++ rest) μ') : V G l RL cc nL dep lg ret Q pc lo (a1 :: a0 :: .ref (G.2.2.1 0) :: rest) μ := R_callV (ci := 7) (id := 0) (As := [a0, a1]) hct hd (by decide) rfl tM_RL_44 tI_yX7_give tS_yX7_give tN_RX7 tC_yX7_give ok_yX7_give rfl rfl sh_0 rfl hrest hdg hn k
theorem ok_yX5_addLoads : okY yX5_addLoads 3 := ⟨by decide +kernel, by decide +kernel, by decide +kernel⟩
theorem iv_X7_129 {dep' : Nat} {Qy : Option Value → Mem → Prop} {rest : List Value} {a0 a1 a2 : Value} {id : Nat} (hct : Ct G l dep' yX5_addLoads cX5_addLoads 4 (Option.none : Option Jvm.ClassFile.FieldType) [Value.ref (G.2.2.1 id), a0, a1, a2] μ Qy) (hs : StB id) (hd : dep' < dep) (hdg : decode cc pc = .ok (.invokevirtual 129, 3)) (hn : pc + 3 = n) (hrest : (rest.map fun v => v.category).sum ≤ 8) (k : ∀ (r : Option Value) (μ' : Mem), Qy r μ' → V G l RX7 cc nL dep lg ret Q n lo (r.toList ++ rest) μ') : V G l RX7 cc nL dep lg ret Q pc lo (a2 :: a1 :: a0 :: .ref (G.2.2.1 id) :: rest) μ := R_callV (ci := 5) (id := id) (As := [a0, a1, a2]) hct hd (by decide) rfl tM_RX7_129 tI_yX5_addLoads tS_yX5_addLoads tN_RX5 tC_yX5_addLoads ok_yX5_addLoads rfl rfl hs.1 rfl hrest hdg hn k
theorem iv_X7_133 {dep' : Nat} {Qy : Option Value → Mem → Prop} {rest : List Value} {a0 a1 : Value} {id : Nat} (hct : Ct G l dep' yX5_loadsOf cX5_loadsOf 3 (Option.some Jvm.ClassFile.FieldType.int) [Value.ref (G.2.2.1 id), a0, a1] μ Qy) (hs : StB id) (hd : dep' < dep) (hdg : decode cc pc = .ok (.invokevirtual 133, 3)) (hn : pc + 3 = n) (hrest : (rest.map fun v => v.category).sum ≤ 8) (k : ∀ (r : Option Value) (μ' : Mem), Qy r μ' → V G l RX7 cc nL dep lg ret Q n lo (r.toList ++ rest) μ') : V G l RX7 cc nL dep lg ret Q pc lo (a1 :: a0 :: .ref (G.2.2.1 id) :: rest) μ := R_callV (ci := 5) (id := id) (As := [a0, a1]) hct hd (by decide) rfl tM_RX7_133 tI_yX5_loadsOf tS_yX5_loadsOf tN_RX5 tC_yX5_loadsOf ok_yX5_loadsOf rfl rfl hs.1 rfl hrest hdg hn k
theorem ok_yX7_letBy : okY yX7_letBy 1 := ⟨by decide +kernel, by decide +kernel, by decide +kernel⟩
theorem iv_L_48 {dep' : Nat} {Qy : Option Value → Mem → Prop} {rest : List Value} {a0 : Value} (hct : Ct G l dep' yX7_letBy cX7_letBy 3 (Option.some Jvm.ClassFile.FieldType.int) [Value.ref (G.2.2.1 0), a0] μ Qy) (hd : dep' < dep) (hdg : decode cc pc = .ok (.invokevirtual 48, 3)) (hn : pc + 3 = n) (hrest : (rest.map fun v => v.category).sum ≤ 8) (k : ∀ (r : Option Value) (μ' : Mem), Qy r μ' → V G l RL cc nL dep lg ret Q n lo (r.toList ++ rest) μ') : V G l RL cc nL dep lg ret Q pc lo (a0 :: .ref (G.2.2.1 0) :: rest) μ := R_callV (ci := 7) (id := 0) (As := [a0]) hct hd (by decide) rfl tM_RL_48 tI_yX7_letBy tS_yX7_letBy tN_RX7 tC_yX7_letBy ok_yX7_letBy rfl rfl sh_0 rfl hrest hdg hn k
theorem iv_X7_137 {dep' : Nat} {Qy : Option Value → Mem → Prop} {rest : List Value} {a0 : Value} {id : Nat} (hct : Ct G l dep' yX5_turn cX5_turn 3 (Option.none : Option Jvm.ClassFile.FieldType) [Value.ref (G.2.2.1 id), a0] μ Qy) (hs : StB id) (hd : dep' < dep) (hdg : decode cc pc = .ok (.invokevirtual 137, 3)) (hn : pc + 3 = n) (hrest : (rest.map fun v => v.category).sum ≤ 8) (k : ∀ (r : Option Value) (μ' : Mem), Qy r μ' → V G l RX7 cc nL dep lg ret Q n lo (r.toList ++ rest) μ') : V G l RX7 cc nL dep lg ret Q pc lo (a0 :: .ref (G.2.2.1 id) :: rest) μ := R_callV (ci := 5) (id := id) (As := [a0]) hct hd (by decide) rfl tM_RX7_137 tI_yX5_turn tS_yX5_turn tN_RX5 tC_yX5_turn ok_yX5_turn rfl rfl hs.1 rfl hrest hdg hn k
theorem ok_yX7_learn : okY yX7_learn 2 := ⟨by decide +kernel, by decide +kernel, by decide +kernel⟩
theorem iv_L_52 {dep' : Nat} {Qy : Option Value → Mem → Prop} {rest : List Value} {a0 a1 : Value} (hct : Ct G l dep' yX7_learn cX7_learn 4 (Option.some Jvm.ClassFile.FieldType.int) [Value.ref (G.2.2.1 0), a0, a1] μ Qy) (hd : dep' < dep) (hdg : decode cc pc = .ok (.invokevirtual 52, 3)) (hn : pc + 3 = n) (hrest : (rest.map fun v => v.category).sum ≤ 8) (k : ∀ (r : Option Value) (μ' : Mem), Qy r μ' → V G l RL cc nL dep lg ret Q n lo (r.toList ++ rest) μ') : V G l RL cc nL dep lg ret Q pc lo (a1 :: a0 :: .ref (G.2.2.1 0) :: rest) μ := R_callV (ci := 7) (id := 0) (As := [a0, a1]) hct hd (by decide) rfl tM_RL_52 tI_yX7_learn tS_yX7_learn tN_RX7 tC_yX7_learn ok_yX7_learn rfl rfl sh_0 rfl hrest hdg hn k
theorem ok_yX7_undo : okY yX7_undo 0 := ⟨by decide +kernel, by decide +kernel, by decide +kernel⟩
theorem iv_L_56 {dep' : Nat} {Qy : Option Value → Mem → Prop} {rest : List Value} (hct : Ct G l dep' yX7_undo cX7_undo 1 (Option.some Jvm.ClassFile.FieldType.int) [Value.ref (G.2.2.1 0)] μ Qy) (hd : dep' < dep) (hdg : decode cc pc = .ok (.invokevirtual 56, 3)) (hn : pc + 3 = n) (hrest : (rest.map fun v => v.category).sum ≤ 8) (k : ∀ (r : Option Value) (μ' : Mem), Qy r μ' → V G l RL cc nL dep lg ret Q n lo (r.toList ++ rest) μ') : V G l RL cc nL dep lg ret Q pc lo (.ref (G.2.2.1 0) :: rest) μ := R_callV (ci := 7) (id := 0) (As := []) hct hd (by decide) rfl tM_RL_56 tI_yX7_undo tS_yX7_undo tN_RX7 tC_yX7_undo ok_yX7_undo rfl rfl sh_0 rfl hrest hdg hn k
theorem ok_yX0_takeBack : okY yX0_takeBack 1 := ⟨by decide +kernel, by decide +kernel, by decide +kernel⟩
theorem iv_X7_143 {dep' : Nat} {Qy : Option Value → Mem → Prop} {rest : List Value} {a0 : Value} (hct : Ct G l dep' yX0_takeBack cX0_takeBack 2 (Option.none : Option Jvm.ClassFile.FieldType) [Value.ref (G.2.2.1 18), a0] μ Qy) (hd : dep' < dep) (hdg : decode cc pc = .ok (.invokevirtual 143, 3)) (hn : pc + 3 = n) (hrest : (rest.map fun v => v.category).sum ≤ 8) (k : ∀ (r : Option Value) (μ' : Mem), Qy r μ' → V G l RX7 cc nL dep lg ret Q n lo (r.toList ++ rest) μ') : V G l RX7 cc nL dep lg ret Q pc lo (a0 :: .ref (G.2.2.1 18) :: rest) μ := R_callV (ci := 0) (id := 18) (As := [a0]) hct hd (by decide) rfl tM_RX7_143 tI_yX0_takeBack tS_yX0_takeBack tN_RX0 tC_yX0_takeBack ok_yX0_takeBack rfl rfl sh_18 rfl hrest hdg hn k
theorem ok_yX7_basin : okY yX7_basin 0 := ⟨by decide +kernel, by decide +kernel, by decide +kernel⟩
theorem iv_L_60 {dep' : Nat} {Qy : Option Value → Mem → Prop} {rest : List Value} (hct : Ct G l dep' yX7_basin cX7_basin 1 (Option.some Jvm.ClassFile.FieldType.int) [Value.ref (G.2.2.1 0)] μ Qy) (hd : dep' < dep) (hdg : decode cc pc = .ok (.invokevirtual 60, 3)) (hn : pc + 3 = n) (hrest : (rest.map fun v => v.category).sum ≤ 8) (k : ∀ (r : Option Value) (μ' : Mem), Qy r μ' → V G l RL cc nL dep lg ret Q n lo (r.toList ++ rest) μ') : V G l RL cc nL dep lg ret Q pc lo (.ref (G.2.2.1 0) :: rest) μ := R_callV (ci := 7) (id := 0) (As := []) hct hd (by decide) rfl tM_RL_60 tI_yX7_basin tS_yX7_basin tN_RX7 tC_yX7_basin ok_yX7_basin rfl rfl sh_0 rfl hrest hdg hn k
theorem ok_yX1_atBasin : okY yX1_atBasin 0 := ⟨by decide +kernel, by decide +kernel, by decide +kernel⟩
theorem iv_X7_146 {dep' : Nat} {Qy : Option Value → Mem → Prop} {rest : List Value} (hct : Ct G l dep' yX1_atBasin cX1_atBasin 2 (Option.some (Jvm.ClassFile.FieldType.object "EelLocks$State")) [Value.ref (G.2.2.1 3)] μ Qy) (hd : dep' < dep) (hdg : decode cc pc = .ok (.invokevirtual 146, 3)) (hn : pc + 3 = n) (hrest : (rest.map fun v => v.category).sum ≤ 8) (k : ∀ (r : Option Value) (μ' : Mem), Qy r μ' → V G l RX7 cc nL dep lg ret Q n lo (r.toList ++ rest) μ') : V G l RX7 cc nL dep lg ret Q pc lo (.ref (G.2.2.1 3) :: rest) μ := R_callV (ci := 1) (id := 3) (As := []) hct hd (by decide) rfl tM_RX7_146 tI_yX1_atBasin tS_yX1_atBasin tN_RX1 tC_yX1_atBasin ok_yX1_atBasin rfl rfl sh_3 rfl hrest hdg hn k
theorem ok_yX1_newTrial : okY yX1_newTrial 0 := ⟨by decide +kernel, by decide +kernel, by decide +kernel⟩
theorem iv_X1_69 {dep' : Nat} {Qy : Option Value → Mem → Prop} {rest : List Value} (hct : Ct G l dep' yX1_newTrial cX1_newTrial 1 (Option.some (Jvm.ClassFile.FieldType.object "EelLocks$State")) [Value.ref (G.2.2.1 3)] μ Qy) (hd : dep' < dep) (hdg : decode cc pc = .ok (.invokevirtual 69, 3)) (hn : pc + 3 = n) (hrest : (rest.map fun v => v.category).sum ≤ 8) (k : ∀ (r : Option Value) (μ' : Mem), Qy r μ' → V G l RX1 cc nL dep lg ret Q n lo (r.toList ++ rest) μ') : V G l RX1 cc nL dep lg ret Q pc lo (.ref (G.2.2.1 3) :: rest) μ := R_callV (ci := 1) (id := 3) (As := []) hct hd (by decide) rfl tM_RX1_69 tI_yX1_newTrial tS_yX1_newTrial tN_RX1 tC_yX1_newTrial ok_yX1_newTrial rfl rfl sh_3 rfl hrest hdg hn k
theorem iv_X1_65 {dep' : Nat} {Qy : Option Value → Mem → Prop} {rest : List Value} {a0 : Value} {id : Nat} (hct : Ct G l dep' yX5_copyFrom cX5_copyFrom 2 (Option.none : Option Jvm.ClassFile.FieldType) [Value.ref (G.2.2.1 id), a0] μ Qy) (hs : StB id) (hd : dep' < dep) (hdg : decode cc pc = .ok (.invokevirtual 65, 3)) (hn : pc + 3 = n) (hrest : (rest.map fun v => v.category).sum ≤ 8) (k : ∀ (r : Option Value) (μ' : Mem), Qy r μ' → V G l RX1 cc nL dep lg ret Q n lo (r.toList ++ rest) μ') : V G l RX1 cc nL dep lg ret Q pc lo (a0 :: .ref (G.2.2.1 id) :: rest) μ := R_callV (ci := 5) (id := id) (As := [a0]) hct hd (by decide) rfl tM_RX1_65 tI_yX5_copyFrom tS_yX5_copyFrom tN_RX5 tC_yX5_copyFrom ok_yX5_copyFrom rfl rfl hs.1 rfl hrest hdg hn k
theorem ok_yX1_goOnTo : okY yX1_goOnTo 2 := ⟨by decide +kernel, by decide +kernel, by decide +kernel⟩
theorem iv_X1_73 {dep' : Nat} {Qy : Option Value → Mem → Prop} {rest : List Value} {a0 a1 : Value} (hct : Ct G l dep' yX1_goOnTo cX1_goOnTo 4 (Option.none : Option Jvm.ClassFile.FieldType) [Value.ref (G.2.2.1 3), a0, a1] μ Qy) (hd : dep' < dep) (hdg : decode cc pc = .ok (.invokevirtual 73, 3)) (hn : pc + 3 = n) (hrest : (rest.map fun v => v.category).sum ≤ 8) (k : ∀ (r : Option Value) (μ' : Mem), Qy r μ' → V G l RX1 cc nL dep lg ret Q n lo (r.toList ++ rest) μ') : V G l RX1 cc nL dep lg ret Q pc lo (a1 :: a0 :: .ref (G.2.2.1 3) :: rest) μ := R_callV (ci := 1) (id := 3) (As := [a0, a1]) hct hd (by decide) rfl tM_RX1_73 tI_yX1_goOnTo tS_yX1_goOnTo tN_RX1 tC_yX1_goOnTo ok_yX1_goOnTo rfl rfl sh_3 rfl hrest hdg hn k
theorem iv_X1_77 {dep' : Nat} {Qy : Option Value → Mem → Prop} {rest : List Value} {a0 : Value} (hct : Ct G l dep' yX1_goThroughNext cX1_goThroughNext 8 (Option.none : Option Jvm.ClassFile.FieldType) [Value.ref (G.2.2.1 3), a0] μ Qy) (hd : dep' < dep) (hdg : decode cc pc = .ok (.invokevirtual 77, 3)) (hn : pc + 3 = n) (hrest : (rest.map fun v => v.category).sum ≤ 8) (k : ∀ (r : Option Value) (μ' : Mem), Qy r μ' → V G l RX1 cc nL dep lg ret Q n lo (r.toList ++ rest) μ') : V G l RX1 cc nL dep lg ret Q pc lo (a0 :: .ref (G.2.2.1 3) :: rest) μ := R_callV (ci := 1) (id := 3) (As := [a0]) hct hd (by decide) rfl tM_RX1_77 tI_yX1_goThroughNext tS_yX1_goThroughNext tN_RX1 tC_yX1_goThroughNext ok_yX1_goThroughNext rfl rfl sh_3 rfl hrest hdg hn k
theorem ok_yX7_hour : okY yX7_hour 1 := ⟨by decide +kernel, by decide +kernel, by decide +kernel⟩
theorem iv_L_64 {dep' : Nat} {Qy : Option Value → Mem → Prop} {rest : List Value} {a0 : Value} (hct : Ct G l dep' yX7_hour cX7_hour 2 (Option.some Jvm.ClassFile.FieldType.int) [Value.ref (G.2.2.1 0), a0] μ Qy) (hd : dep' < dep) (hdg : decode cc pc = .ok (.invokevirtual 64, 3)) (hn : pc + 3 = n) (hrest : (rest.map fun v => v.category).sum ≤ 8) (k : ∀ (r : Option Value) (μ' : Mem), Qy r μ' → V G l RL cc nL dep lg ret Q n lo (r.toList ++ rest) μ') : V G l RL cc nL dep lg ret Q pc lo (a0 :: .ref (G.2.2.1 0) :: rest) μ := R_callV (ci := 7) (id := 0) (As := [a0]) hct hd (by decide) rfl tM_RL_64 tI_yX7_hour tS_yX7_hour tN_RX7 tC_yX7_hour ok_yX7_hour rfl rfl sh_0 rfl hrest hdg hn k
theorem ok_yX7_gains : okY yX7_gains 1 := ⟨by decide +kernel, by decide +kernel, by decide +kernel⟩
theorem iv_L_68 {dep' : Nat} {Qy : Option Value → Mem → Prop} {rest : List Value} {a0 : Value} (hct : Ct G l dep' yX7_gains cX7_gains 2 (Option.some Jvm.ClassFile.FieldType.int) [Value.ref (G.2.2.1 0), a0] μ Qy) (hd : dep' < dep) (hdg : decode cc pc = .ok (.invokevirtual 68, 3)) (hn : pc + 3 = n) (hrest : (rest.map fun v => v.category).sum ≤ 8) (k : ∀ (r : Option Value) (μ' : Mem), Qy r μ' → V G l RL cc nL dep lg ret Q n lo (r.toList ++ rest) μ') : V G l RL cc nL dep lg ret Q pc lo (a0 :: .ref (G.2.2.1 0) :: rest) μ := R_callV (ci := 7) (id := 0) (As := [a0]) hct hd (by decide) rfl tM_RL_68 tI_yX7_gains tS_yX7_gains tN_RX7 tC_yX7_gains ok_yX7_gains rfl rfl sh_0 rfl hrest hdg hn k
theorem ok_yX3_gainsOf : okY yX3_gainsOf 2 := ⟨by decide +kernel, by decide +kernel, by decide +kernel⟩
theorem iv_X7_150 {dep' : Nat} {Qy : Option Value → Mem → Prop} {rest : List Value} {a0 a1 : Value} (hct : Ct G l dep' yX3_gainsOf cX3_gainsOf 7 (Option.some Jvm.ClassFile.FieldType.int) [Value.ref (G.2.2.1 119), a0, a1] μ Qy) (hd : dep' < dep) (hdg : decode cc pc = .ok (.invokevirtual 150, 3)) (hn : pc + 3 = n) (hrest : (rest.map fun v => v.category).sum ≤ 8) (k : ∀ (r : Option Value) (μ' : Mem), Qy r μ' → V G l RX7 cc nL dep lg ret Q n lo (r.toList ++ rest) μ') : V G l RX7 cc nL dep lg ret Q pc lo (a1 :: a0 :: .ref (G.2.2.1 119) :: rest) μ := R_callV (ci := 3) (id := 119) (As := [a0, a1]) hct hd (by decide) rfl tM_RX7_150 tI_yX3_gainsOf tS_yX3_gainsOf tN_RX3 tC_yX3_gainsOf ok_yX3_gainsOf rfl rfl sh_119 rfl hrest hdg hn k
theorem iv_X3_18 {dep' : Nat} {Qy : Option Value → Mem → Prop} {rest : List Value} (hct : Ct G l dep' yX1_newTrial cX1_newTrial 1 (Option.some (Jvm.ClassFile.FieldType.object "EelLocks$State")) [Value.ref (G.2.2.1 3)] μ Qy) (hd : dep' < dep) (hdg : decode cc pc = .ok (.invokevirtual 18, 3)) (hn : pc + 3 = n) (hrest : (rest.map fun v => v.category).sum ≤ 8) (k : ∀ (r : Option Value) (μ' : Mem), Qy r μ' → V G l RX3 cc nL dep lg ret Q n lo (r.toList ++ rest) μ') : V G l RX3 cc nL dep lg ret Q pc lo (.ref (G.2.2.1 3) :: rest) μ := R_callV (ci := 1) (id := 3) (As := []) hct hd (by decide) rfl tM_RX3_18 tI_yX1_newTrial tS_yX1_newTrial tN_RX1 tC_yX1_newTrial ok_yX1_newTrial rfl rfl sh_3 rfl hrest hdg hn k
theorem iv_X3_33 {dep' : Nat} {Qy : Option Value → Mem → Prop} {rest : List Value} {a0 : Value} {id : Nat} (hct : Ct G l dep' yX5_placeOf cX5_placeOf 3 (Option.some Jvm.ClassFile.FieldType.int) [Value.ref (G.2.2.1 id), a0] μ Qy) (hs : StB id) (hd : dep' < dep) (hdg : decode cc pc = .ok (.invokevirtual 33, 3)) (hn : pc + 3 = n) (hrest : (rest.map fun v => v.category).sum ≤ 8) (k : ∀ (r : Option Value) (μ' : Mem), Qy r μ' → V G l RX3 cc nL dep lg ret Q n lo (r.toList ++ rest) μ') : V G l RX3 cc nL dep lg ret Q pc lo (a0 :: .ref (G.2.2.1 id) :: rest) μ := R_callV (ci := 5) (id := id) (As := [a0]) hct hd (by decide) rfl tM_RX3_33 tI_yX5_placeOf tS_yX5_placeOf tN_RX5 tC_yX5_placeOf ok_yX5_placeOf rfl rfl hs.1 rfl hrest hdg hn k
theorem iv_X3_37 {dep' : Nat} {Qy : Option Value → Mem → Prop} {rest : List Value} {a0 : Value} (hct : Ct G l dep' yX1_goThroughNext cX1_goThroughNext 8 (Option.none : Option Jvm.ClassFile.FieldType) [Value.ref (G.2.2.1 3), a0] μ Qy) (hd : dep' < dep) (hdg : decode cc pc = .ok (.invokevirtual 37, 3)) (hn : pc + 3 = n) (hrest : (rest.map fun v => v.category).sum ≤ 8) (k : ∀ (r : Option Value) (μ' : Mem), Qy r μ' → V G l RX3 cc nL dep lg ret Q n lo (r.toList ++ rest) μ') : V G l RX3 cc nL dep lg ret Q pc lo (a0 :: .ref (G.2.2.1 3) :: rest) μ := R_callV (ci := 1) (id := 3) (As := [a0]) hct hd (by decide) rfl tM_RX3_37 tI_yX1_goThroughNext tS_yX1_goThroughNext tN_RX1 tC_yX1_goThroughNext ok_yX1_goThroughNext rfl rfl sh_3 rfl hrest hdg hn k
theorem ok_yX7_mates : okY yX7_mates 1 := ⟨by decide +kernel, by decide +kernel, by decide +kernel⟩
theorem iv_L_72 {dep' : Nat} {Qy : Option Value → Mem → Prop} {rest : List Value} {a0 : Value} (hct : Ct G l dep' yX7_mates cX7_mates 2 (Option.some Jvm.ClassFile.FieldType.int) [Value.ref (G.2.2.1 0), a0] μ Qy) (hd : dep' < dep) (hdg : decode cc pc = .ok (.invokevirtual 72, 3)) (hn : pc + 3 = n) (hrest : (rest.map fun v => v.category).sum ≤ 8) (k : ∀ (r : Option Value) (μ' : Mem), Qy r μ' → V G l RL cc nL dep lg ret Q n lo (r.toList ++ rest) μ') : V G l RL cc nL dep lg ret Q pc lo (a0 :: .ref (G.2.2.1 0) :: rest) μ := R_callV (ci := 7) (id := 0) (As := [a0]) hct hd (by decide) rfl tM_RL_72 tI_yX7_mates tS_yX7_mates tN_RX7 tC_yX7_mates ok_yX7_mates rfl rfl sh_0 rfl hrest hdg hn k
theorem ok_yX3_matesOf : okY yX3_matesOf 2 := ⟨by decide +kernel, by decide +kernel, by decide +kernel⟩
theorem iv_X7_154 {dep' : Nat} {Qy : Option Value → Mem → Prop} {rest : List Value} {a0 a1 : Value} (hct : Ct G l dep' yX3_matesOf cX3_matesOf 7 (Option.some Jvm.ClassFile.FieldType.int) [Value.ref (G.2.2.1 119), a0, a1] μ Qy) (hd : dep' < dep) (hdg : decode cc pc = .ok (.invokevirtual 154, 3)) (hn : pc + 3 = n) (hrest : (rest.map fun v => v.category).sum ≤ 8) (k : ∀ (r : Option Value) (μ' : Mem), Qy r μ' → V G l RX7 cc nL dep lg ret Q n lo (r.toList ++ rest) μ') : V G l RX7 cc nL dep lg ret Q pc lo (a1 :: a0 :: .ref (G.2.2.1 119) :: rest) μ := R_callV (ci := 3) (id := 119) (As := [a0, a1]) hct hd (by decide) rfl tM_RX7_154 tI_yX3_matesOf tS_yX3_matesOf tN_RX3 tC_yX3_matesOf ok_yX3_matesOf rfl rfl sh_119 rfl hrest hdg hn k
theorem ok_yX1_mateAtNext : okY yX1_mateAtNext 2 := ⟨by decide +kernel, by decide +kernel, by decide +kernel⟩
theorem iv_X3_41 {dep' : Nat} {Qy : Option Value → Mem → Prop} {rest : List Value} {a0 a1 : Value} (hct : Ct G l dep' yX1_mateAtNext cX1_mateAtNext 4 (Option.some Jvm.ClassFile.FieldType.int) [Value.ref (G.2.2.1 3), a0, a1] μ Qy) (hd : dep' < dep) (hdg : decode cc pc = .ok (.invokevirtual 41, 3)) (hn : pc + 3 = n) (hrest : (rest.map fun v => v.category).sum ≤ 8) (k : ∀ (r : Option Value) (μ' : Mem), Qy r μ' → V G l RX3 cc nL dep lg ret Q n lo (r.toList ++ rest) μ') : V G l RX3 cc nL dep lg ret Q pc lo (a1 :: a0 :: .ref (G.2.2.1 3) :: rest) μ := R_callV (ci := 1) (id := 3) (As := [a0, a1]) hct hd (by decide) rfl tM_RX3_41 tI_yX1_mateAtNext tS_yX1_mateAtNext tN_RX1 tC_yX1_mateAtNext ok_yX1_mateAtNext rfl rfl sh_3 rfl hrest hdg hn k
theorem ok_yX7_first : okY yX7_first 2 := ⟨by decide +kernel, by decide +kernel, by decide +kernel⟩
theorem iv_L_76 {dep' : Nat} {Qy : Option Value → Mem → Prop} {rest : List Value} {a0 a1 : Value} (hct : Ct G l dep' yX7_first cX7_first 4 (Option.some Jvm.ClassFile.FieldType.int) [Value.ref (G.2.2.1 0), a0, a1] μ Qy) (hd : dep' < dep) (hdg : decode cc pc = .ok (.invokevirtual 76, 3)) (hn : pc + 3 = n) (hrest : (rest.map fun v => v.category).sum ≤ 8) (k : ∀ (r : Option Value) (μ' : Mem), Qy r μ' → V G l RL cc nL dep lg ret Q n lo (r.toList ++ rest) μ') : V G l RL cc nL dep lg ret Q pc lo (a1 :: a0 :: .ref (G.2.2.1 0) :: rest) μ := R_callV (ci := 7) (id := 0) (As := [a0, a1]) hct hd (by decide) rfl tM_RL_76 tI_yX7_first tS_yX7_first tN_RX7 tC_yX7_first ok_yX7_first rfl rfl sh_0 rfl hrest hdg hn k
theorem ok_yX7_refusalOfTwo : okY yX7_refusalOfTwo 2 := ⟨by decide +kernel, by decide +kernel, by decide +kernel⟩
theorem iv_X7_157 {dep' : Nat} {Qy : Option Value → Mem → Prop} {rest : List Value} {a0 a1 : Value} (hct : Ct G l dep' yX7_refusalOfTwo cX7_refusalOfTwo 3 (Option.some Jvm.ClassFile.FieldType.int) [Value.ref (G.2.2.1 0), a0, a1] μ Qy) (hd : dep' < dep) (hdg : decode cc pc = .ok (.invokevirtual 157, 3)) (hn : pc + 3 = n) (hrest : (rest.map fun v => v.category).sum ≤ 8) (k : ∀ (r : Option Value) (μ' : Mem), Qy r μ' → V G l RX7 cc nL dep lg ret Q n lo (r.toList ++ rest) μ') : V G l RX7 cc nL dep lg ret Q pc lo (a1 :: a0 :: .ref (G.2.2.1 0) :: rest) μ := R_callV (ci := 7) (id := 0) (As := [a0, a1]) hct hd (by decide) rfl tM_RX7_157 tI_yX7_refusalOfTwo tS_yX7_refusalOfTwo tN_RX7 tC_yX7_refusalOfTwo ok_yX7_refusalOfTwo rfl rfl sh_0 rfl hrest hdg hn k
theorem ok_yX3_firstOrder : okY yX3_firstOrder 3 := ⟨by decide +kernel, by decide +kernel, by decide +kernel⟩
theorem iv_X7_160 {dep' : Nat} {Qy : Option Value → Mem → Prop} {rest : List Value} {a0 a1 a2 : Value} (hct : Ct G l dep' yX3_firstOrder cX3_firstOrder 7 (Option.some Jvm.ClassFile.FieldType.int) [Value.ref (G.2.2.1 119), a0, a1, a2] μ Qy) (hd : dep' < dep) (hdg : decode cc pc = .ok (.invokevirtual 160, 3)) (hn : pc + 3 = n) (hrest : (rest.map fun v => v.category).sum ≤ 8) (k : ∀ (r : Option Value) (μ' : Mem), Qy r μ' → V G l RX7 cc nL dep lg ret Q n lo (r.toList ++ rest) μ') : V G l RX7 cc nL dep lg ret Q pc lo (a2 :: a1 :: a0 :: .ref (G.2.2.1 119) :: rest) μ := R_callV (ci := 3) (id := 119) (As := [a0, a1, a2]) hct hd (by decide) rfl tM_RX7_160 tI_yX3_firstOrder tS_yX3_firstOrder tN_RX3 tC_yX3_firstOrder ok_yX3_firstOrder rfl rfl sh_119 rfl hrest hdg hn k
theorem iv_X3_60 {dep' : Nat} {Qy : Option Value → Mem → Prop} {rest : List Value} {id : Nat} (hct : Ct G l dep' yX5_figures cX5_figures 3 (Option.some Jvm.ClassFile.FieldType.int) [Value.ref (G.2.2.1 id)] μ Qy) (hs : StB id) (hd : dep' < dep) (hdg : decode cc pc = .ok (.invokevirtual 60, 3)) (hn : pc + 3 = n) (hrest : (rest.map fun v => v.category).sum ≤ 8) (k : ∀ (r : Option Value) (μ' : Mem), Qy r μ' → V G l RX3 cc nL dep lg ret Q n lo (r.toList ++ rest) μ') : V G l RX3 cc nL dep lg ret Q pc lo (.ref (G.2.2.1 id) :: rest) μ := R_callV (ci := 5) (id := id) (As := []) hct hd (by decide) rfl tM_RX3_60 tI_yX5_figures tS_yX5_figures tN_RX5 tC_yX5_figures ok_yX5_figures rfl rfl hs.1 rfl hrest hdg hn k
theorem ok_yX3_suits : okY yX3_suits 4 := ⟨by decide +kernel, by decide +kernel, by decide +kernel⟩
theorem iv_X3_63 {dep' : Nat} {Qy : Option Value → Mem → Prop} {rest : List Value} {a0 a1 a2 a3 : Value} (hct : Ct G l dep' yX3_suits cX3_suits 5 (Option.some Jvm.ClassFile.FieldType.boolean) [Value.ref (G.2.2.1 119), a0, a1, a2, a3] μ Qy) (hd : dep' < dep) (hdg : decode cc pc = .ok (.invokevirtual 63, 3)) (hn : pc + 3 = n) (hrest : (rest.map fun v => v.category).sum ≤ 8) (k : ∀ (r : Option Value) (μ' : Mem), Qy r μ' → V G l RX3 cc nL dep lg ret Q n lo (r.toList ++ rest) μ') : V G l RX3 cc nL dep lg ret Q pc lo (a3 :: a2 :: a1 :: a0 :: .ref (G.2.2.1 119) :: rest) μ := R_callV (ci := 3) (id := 119) (As := [a0, a1, a2, a3]) hct hd (by decide) rfl tM_RX3_63 tI_yX3_suits tS_yX3_suits tN_RX3 tC_yX3_suits ok_yX3_suits rfl rfl sh_119 rfl hrest hdg hn k
theorem iv_X3_75 {dep' : Nat} {Qy : Option Value → Mem → Prop} {rest : List Value} {a0 a1 : Value} (hct : Ct G l dep' yX1_goOnTo cX1_goOnTo 4 (Option.none : Option Jvm.ClassFile.FieldType) [Value.ref (G.2.2.1 3), a0, a1] μ Qy) (hd : dep' < dep) (hdg : decode cc pc = .ok (.invokevirtual 75, 3)) (hn : pc + 3 = n) (hrest : (rest.map fun v => v.category).sum ≤ 8) (k : ∀ (r : Option Value) (μ' : Mem), Qy r μ' → V G l RX3 cc nL dep lg ret Q n lo (r.toList ++ rest) μ') : V G l RX3 cc nL dep lg ret Q pc lo (a1 :: a0 :: .ref (G.2.2.1 3) :: rest) μ := R_callV (ci := 1) (id := 3) (As := [a0, a1]) hct hd (by decide) rfl tM_RX3_75 tI_yX1_goOnTo tS_yX1_goOnTo tN_RX1 tC_yX1_goOnTo ok_yX1_goOnTo rfl rfl sh_3 rfl hrest hdg hn k
theorem ok_yX5_isAt : okY yX5_isAt 2 := ⟨by decide +kernel, by decide +kernel, by decide +kernel⟩
theorem iv_X3_79 {dep' : Nat} {Qy : Option Value → Mem → Prop} {rest : List Value} {a0 a1 : Value} {id : Nat} (hct : Ct G l dep' yX5_isAt cX5_isAt 3 (Option.some Jvm.ClassFile.FieldType.boolean) [Value.ref (G.2.2.1 id), a0, a1] μ Qy) (hs : StB id) (hd : dep' < dep) (hdg : decode cc pc = .ok (.invokevirtual 79, 3)) (hn : pc + 3 = n) (hrest : (rest.map fun v => v.category).sum ≤ 8) (k : ∀ (r : Option Value) (μ' : Mem), Qy r μ' → V G l RX3 cc nL dep lg ret Q n lo (r.toList ++ rest) μ') : V G l RX3 cc nL dep lg ret Q pc lo (a1 :: a0 :: .ref (G.2.2.1 id) :: rest) μ := R_callV (ci := 5) (id := id) (As := [a0, a1]) hct hd (by decide) rfl tM_RX3_79 tI_yX5_isAt tS_yX5_isAt tN_RX5 tC_yX5_isAt ok_yX5_isAt rfl rfl hs.1 rfl hrest hdg hn k
theorem ok_yX3_makeNextOrder : okY yX3_makeNextOrder 1 := ⟨by decide +kernel, by decide +kernel, by decide +kernel⟩
theorem iv_X3_67 {dep' : Nat} {Qy : Option Value → Mem → Prop} {rest : List Value} {a0 : Value} (hct : Ct G l dep' yX3_makeNextOrder cX3_makeNextOrder 6 (Option.none : Option Jvm.ClassFile.FieldType) [Value.ref (G.2.2.1 119), a0] μ Qy) (hd : dep' < dep) (hdg : decode cc pc = .ok (.invokevirtual 67, 3)) (hn : pc + 3 = n) (hrest : (rest.map fun v => v.category).sum ≤ 8) (k : ∀ (r : Option Value) (μ' : Mem), Qy r μ' → V G l RX3 cc nL dep lg ret Q n lo (r.toList ++ rest) μ') : V G l RX3 cc nL dep lg ret Q pc lo (a0 :: .ref (G.2.2.1 119) :: rest) μ := R_callV (ci := 3) (id := 119) (As := [a0]) hct hd (by decide) rfl tM_RX3_67 tI_yX3_makeNextOrder tS_yX3_makeNextOrder tN_RX3 tC_yX3_makeNextOrder ok_yX3_makeNextOrder rfl rfl sh_119 rfl hrest hdg hn k
theorem ok_yX3_exchange : okY yX3_exchange 2 := ⟨by decide +kernel, by decide +kernel, by decide +kernel⟩
theorem iv_X3_71 {dep' : Nat} {Qy : Option Value → Mem → Prop} {rest : List Value} {a0 a1 : Value} (hct : Ct G l dep' yX3_exchange cX3_exchange 4 (Option.none : Option Jvm.ClassFile.FieldType) [Value.ref (G.2.2.1 119), a0, a1] μ Qy) (hd : dep' < dep) (hdg : decode cc pc = .ok (.invokevirtual 71, 3)) (hn : pc + 3 = n) (hrest : (rest.map fun v => v.category).sum ≤ 8) (k : ∀ (r : Option Value) (μ' : Mem), Qy r μ' → V G l RX3 cc nL dep lg ret Q n lo (r.toList ++ rest) μ') : V G l RX3 cc nL dep lg ret Q pc lo (a1 :: a0 :: .ref (G.2.2.1 119) :: rest) μ := R_callV (ci := 3) (id := 119) (As := [a0, a1]) hct hd (by decide) rfl tM_RX3_71 tI_yX3_exchange tS_yX3_exchange tN_RX3 tC_yX3_exchange ok_yX3_exchange rfl rfl sh_119 rfl hrest hdg hn k
theorem ok_yX7_tea : okY yX7_tea 3 := ⟨by decide +kernel, by decide +kernel, by decide +kernel⟩
theorem iv_L_80 {dep' : Nat} {Qy : Option Value → Mem → Prop} {rest : List Value} {a0 a1 a2 : Value} (hct : Ct G l dep' yX7_tea cX7_tea 6 (Option.some Jvm.ClassFile.FieldType.int) [Value.ref (G.2.2.1 0), a0, a1, a2] μ Qy) (hd : dep' < dep) (hdg : decode cc pc = .ok (.invokevirtual 80, 3)) (hn : pc + 3 = n) (hrest : (rest.map fun v => v.category).sum ≤ 8) (k : ∀ (r : Option Value) (μ' : Mem), Qy r μ' → V G l RL cc nL dep lg ret Q n lo (r.toList ++ rest) μ') : V G l RL cc nL dep lg ret Q pc lo (a2 :: a1 :: a0 :: .ref (G.2.2.1 0) :: rest) μ := R_callV (ci := 7) (id := 0) (As := [a0, a1, a2]) hct hd (by decide) rfl tM_RL_80 tI_yX7_tea tS_yX7_tea tN_RX7 tC_yX7_tea ok_yX7_tea rfl rfl sh_0 rfl hrest hdg hn k
theorem ok_yX3_leastLoads : okY yX3_leastLoads 3 := ⟨by decide +kernel, by decide +kernel, by decide +kernel⟩
theorem iv_X7_164 {dep' : Nat} {Qy : Option Value → Mem → Prop} {rest : List Value} {a0 a1 a2 : Value} (hct : Ct G l dep' yX3_leastLoads cX3_leastLoads 6 (Option.some Jvm.ClassFile.FieldType.int) [Value.ref (G.2.2.1 119), a0, a1, a2] μ Qy) (hd : dep' < dep) (hdg : decode cc pc = .ok (.invokevirtual 164, 3)) (hn : pc + 3 = n) (hrest : (rest.map fun v => v.category).sum ≤ 8) (k : ∀ (r : Option Value) (μ' : Mem), Qy r μ' → V G l RX7 cc nL dep lg ret Q n lo (r.toList ++ rest) μ') : V G l RX7 cc nL dep lg ret Q pc lo (a2 :: a1 :: a0 :: .ref (G.2.2.1 119) :: rest) μ := R_callV (ci := 3) (id := 119) (As := [a0, a1, a2]) hct hd (by decide) rfl tM_RX7_164 tI_yX3_leastLoads tS_yX3_leastLoads tN_RX3 tC_yX3_leastLoads ok_yX3_leastLoads rfl rfl sh_119 rfl hrest hdg hn k
theorem ok_yX3_suitsWith : okY yX3_suitsWith 5 := ⟨by decide +kernel, by decide +kernel, by decide +kernel⟩
theorem iv_X3_83 {dep' : Nat} {Qy : Option Value → Mem → Prop} {rest : List Value} {a0 a1 a2 a3 a4 : Value} (hct : Ct G l dep' yX3_suitsWith cX3_suitsWith 7 (Option.some Jvm.ClassFile.FieldType.boolean) [Value.ref (G.2.2.1 119), a0, a1, a2, a3, a4] μ Qy) (hd : dep' < dep) (hdg : decode cc pc = .ok (.invokevirtual 83, 3)) (hn : pc + 3 = n) (hrest : (rest.map fun v => v.category).sum ≤ 8) (k : ∀ (r : Option Value) (μ' : Mem), Qy r μ' → V G l RX3 cc nL dep lg ret Q n lo (r.toList ++ rest) μ') : V G l RX3 cc nL dep lg ret Q pc lo (a4 :: a3 :: a2 :: a1 :: a0 :: .ref (G.2.2.1 119) :: rest) μ := R_callV (ci := 3) (id := 119) (As := [a0, a1, a2, a3, a4]) hct hd (by decide) rfl tM_RX3_83 tI_yX3_suitsWith tS_yX3_suitsWith tN_RX3 tC_yX3_suitsWith ok_yX3_suitsWith rfl rfl sh_119 rfl hrest hdg hn k
theorem iv_X3_112 {dep' : Nat} {Qy : Option Value → Mem → Prop} {rest : List Value} {a0 a1 a2 : Value} {id : Nat} (hct : Ct G l dep' yX5_addLoads cX5_addLoads 4 (Option.none : Option Jvm.ClassFile.FieldType) [Value.ref (G.2.2.1 id), a0, a1, a2] μ Qy) (hs : StB id) (hd : dep' < dep) (hdg : decode cc pc = .ok (.invokevirtual 112, 3)) (hn : pc + 3 = n) (hrest : (rest.map fun v => v.category).sum ≤ 8) (k : ∀ (r : Option Value) (μ' : Mem), Qy r μ' → V G l RX3 cc nL dep lg ret Q n lo (r.toList ++ rest) μ') : V G l RX3 cc nL dep lg ret Q pc lo (a2 :: a1 :: a0 :: .ref (G.2.2.1 id) :: rest) μ := R_callV (ci := 5) (id := id) (As := [a0, a1, a2]) hct hd (by decide) rfl tM_RX3_112 tI_yX5_addLoads tS_yX5_addLoads tN_RX5 tC_yX5_addLoads ok_yX5_addLoads rfl rfl hs.1 rfl hrest hdg hn k
theorem ok_yX3_canGive : okY yX3_canGive 2 := ⟨by decide +kernel, by decide +kernel, by decide +kernel⟩
theorem iv_X3_87 {dep' : Nat} {Qy : Option Value → Mem → Prop} {rest : List Value} {a0 a1 : Value} (hct : Ct G l dep' yX3_canGive cX3_canGive 5 (Option.some Jvm.ClassFile.FieldType.boolean) [Value.ref (G.2.2.1 119), a0, a1] μ Qy) (hd : dep' < dep) (hdg : decode cc pc = .ok (.invokevirtual 87, 3)) (hn : pc + 3 = n) (hrest : (rest.map fun v => v.category).sum ≤ 8) (k : ∀ (r : Option Value) (μ' : Mem), Qy r μ' → V G l RX3 cc nL dep lg ret Q n lo (r.toList ++ rest) μ') : V G l RX3 cc nL dep lg ret Q pc lo (a1 :: a0 :: .ref (G.2.2.1 119) :: rest) μ := R_callV (ci := 3) (id := 119) (As := [a0, a1]) hct hd (by decide) rfl tM_RX3_87 tI_yX3_canGive tS_yX3_canGive tN_RX3 tC_yX3_canGive ok_yX3_canGive rfl rfl sh_119 rfl hrest hdg hn k
theorem iv_X3_95 {dep' : Nat} {Qy : Option Value → Mem → Prop} {rest : List Value} {a0 : Value} (hct : Ct G l dep' yX1_hasBarge cX1_hasBarge 2 (Option.some Jvm.ClassFile.FieldType.boolean) [Value.ref (G.2.2.1 3), a0] μ Qy) (hd : dep' < dep) (hdg : decode cc pc = .ok (.invokevirtual 95, 3)) (hn : pc + 3 = n) (hrest : (rest.map fun v => v.category).sum ≤ 8) (k : ∀ (r : Option Value) (μ' : Mem), Qy r μ' → V G l RX3 cc nL dep lg ret Q n lo (r.toList ++ rest) μ') : V G l RX3 cc nL dep lg ret Q pc lo (a0 :: .ref (G.2.2.1 3) :: rest) μ := R_callV (ci := 1) (id := 3) (As := [a0]) hct hd (by decide) rfl tM_RX3_95 tI_yX1_hasBarge tS_yX1_hasBarge tN_RX1 tC_yX1_hasBarge ok_yX1_hasBarge rfl rfl sh_3 rfl hrest hdg hn k
theorem iv_X3_99 {dep' : Nat} {Qy : Option Value → Mem → Prop} {rest : List Value} {a0 : Value} (hct : Ct G l dep' yX1_hasLock cX1_hasLock 2 (Option.some Jvm.ClassFile.FieldType.boolean) [Value.ref (G.2.2.1 3), a0] μ Qy) (hd : dep' < dep) (hdg : decode cc pc = .ok (.invokevirtual 99, 3)) (hn : pc + 3 = n) (hrest : (rest.map fun v => v.category).sum ≤ 8) (k : ∀ (r : Option Value) (μ' : Mem), Qy r μ' → V G l RX3 cc nL dep lg ret Q n lo (r.toList ++ rest) μ') : V G l RX3 cc nL dep lg ret Q pc lo (a0 :: .ref (G.2.2.1 3) :: rest) μ := R_callV (ci := 1) (id := 3) (As := [a0]) hct hd (by decide) rfl tM_RX3_99 tI_yX1_hasLock tS_yX1_hasLock tN_RX1 tC_yX1_hasLock ok_yX1_hasLock rfl rfl sh_3 rfl hrest hdg hn k
theorem iv_X3_102 {dep' : Nat} {Qy : Option Value → Mem → Prop} {rest : List Value} {a0 : Value} (hct : Ct G l dep' yX1_isPassed cX1_isPassed 2 (Option.some Jvm.ClassFile.FieldType.boolean) [Value.ref (G.2.2.1 3), a0] μ Qy) (hd : dep' < dep) (hdg : decode cc pc = .ok (.invokevirtual 102, 3)) (hn : pc + 3 = n) (hrest : (rest.map fun v => v.category).sum ≤ 8) (k : ∀ (r : Option Value) (μ' : Mem), Qy r μ' → V G l RX3 cc nL dep lg ret Q n lo (r.toList ++ rest) μ') : V G l RX3 cc nL dep lg ret Q pc lo (a0 :: .ref (G.2.2.1 3) :: rest) μ := R_callV (ci := 1) (id := 3) (As := [a0]) hct hd (by decide) rfl tM_RX3_102 tI_yX1_isPassed tS_yX1_isPassed tN_RX1 tC_yX1_isPassed ok_yX1_isPassed rfl rfl sh_3 rfl hrest hdg hn k
theorem ok_yX3_canGiveBoth : okY yX3_canGiveBoth 3 := ⟨by decide +kernel, by decide +kernel, by decide +kernel⟩
theorem iv_X3_91 {dep' : Nat} {Qy : Option Value → Mem → Prop} {rest : List Value} {a0 a1 a2 : Value} (hct : Ct G l dep' yX3_canGiveBoth cX3_canGiveBoth 4 (Option.some Jvm.ClassFile.FieldType.boolean) [Value.ref (G.2.2.1 119), a0, a1, a2] μ Qy) (hd : dep' < dep) (hdg : decode cc pc = .ok (.invokevirtual 91, 3)) (hn : pc + 3 = n) (hrest : (rest.map fun v => v.category).sum ≤ 8) (k : ∀ (r : Option Value) (μ' : Mem), Qy r μ' → V G l RX3 cc nL dep lg ret Q n lo (r.toList ++ rest) μ') : V G l RX3 cc nL dep lg ret Q pc lo (a2 :: a1 :: a0 :: .ref (G.2.2.1 119) :: rest) μ := R_callV (ci := 3) (id := 119) (As := [a0, a1, a2]) hct hd (by decide) rfl tM_RX3_91 tI_yX3_canGiveBoth tS_yX3_canGiveBoth tN_RX3 tC_yX3_canGiveBoth ok_yX3_canGiveBoth rfl rfl sh_119 rfl hrest hdg hn k
theorem ok_yX3_howManyLoads : okY yX3_howManyLoads 1 := ⟨by decide +kernel, by decide +kernel, by decide +kernel⟩
theorem iv_X7_167 {dep' : Nat} {Qy : Option Value → Mem → Prop} {rest : List Value} {a0 : Value} (hct : Ct G l dep' yX3_howManyLoads cX3_howManyLoads 2 (Option.some Jvm.ClassFile.FieldType.int) [Value.ref (G.2.2.1 119), a0] μ Qy) (hd : dep' < dep) (hdg : decode cc pc = .ok (.invokevirtual 167, 3)) (hn : pc + 3 = n) (hrest : (rest.map fun v => v.category).sum ≤ 8) (k : ∀ (r : Option Value) (μ' : Mem), Qy r μ' → V G l RX7 cc nL dep lg ret Q n lo (r.toList ++ rest) μ') : V G l RX7 cc nL dep lg ret Q pc lo (a0 :: .ref (G.2.2.1 119) :: rest) μ := R_callV (ci := 3) (id := 119) (As := [a0]) hct hd (by decide) rfl tM_RX7_167 tI_yX3_howManyLoads tS_yX3_howManyLoads tN_RX3 tC_yX3_howManyLoads ok_yX3_howManyLoads rfl rfl sh_119 rfl hrest hdg hn k
theorem ok_yX7_judge : okY yX7_judge 2 := ⟨by decide +kernel, by decide +kernel, by decide +kernel⟩
theorem iv_L_85 {dep' : Nat} {Qy : Option Value → Mem → Prop} {rest : List Value} {a0 a1 : Value} (hct : Ct G l dep' yX7_judge cX7_judge 3 (Option.some Jvm.ClassFile.FieldType.int) [Value.ref (G.2.2.1 0), a0, a1] μ Qy) (hd : dep' < dep) (hdg : decode cc pc = .ok (.invokevirtual 85, 3)) (hn : pc + 3 = n) (hrest : (rest.map fun v => v.category).sum ≤ 8) (k : ∀ (r : Option Value) (μ' : Mem), Qy r μ' → V G l RL cc nL dep lg ret Q n lo (r.toList ++ rest) μ') : V G l RL cc nL dep lg ret Q pc lo (a1 :: a0 :: .ref (G.2.2.1 0) :: rest) μ := R_callV (ci := 7) (id := 0) (As := [a0, a1]) hct hd (by decide) rfl tM_RL_85 tI_yX7_judge tS_yX7_judge tN_RX7 tC_yX7_judge ok_yX7_judge rfl rfl sh_0 rfl hrest hdg hn k
theorem ok_yX3_spread : okY yX3_spread 2 := ⟨by decide +kernel, by decide +kernel, by decide +kernel⟩
theorem iv_X7_170 {dep' : Nat} {Qy : Option Value → Mem → Prop} {rest : List Value} {a0 a1 : Value} (hct : Ct G l dep' yX3_spread cX3_spread 5 (Option.some Jvm.ClassFile.FieldType.boolean) [Value.ref (G.2.2.1 119), a0, a1] μ Qy) (hd : dep' < dep) (hdg : decode cc pc = .ok (.invokevirtual 170, 3)) (hn : pc + 3 = n) (hrest : (rest.map fun v => v.category).sum ≤ 8) (k : ∀ (r : Option Value) (μ' : Mem), Qy r μ' → V G l RX7 cc nL dep lg ret Q n lo (r.toList ++ rest) μ') : V G l RX7 cc nL dep lg ret Q pc lo (a1 :: a0 :: .ref (G.2.2.1 119) :: rest) μ := R_callV (ci := 3) (id := 119) (As := [a0, a1]) hct hd (by decide) rfl tM_RX7_170 tI_yX3_spread tS_yX3_spread tN_RX3 tC_yX3_spread ok_yX3_spread rfl rfl sh_119 rfl hrest hdg hn k
theorem ok_yX3_firstMisplaced : okY yX3_firstMisplaced 2 := ⟨by decide +kernel, by decide +kernel, by decide +kernel⟩
theorem iv_X7_174 {dep' : Nat} {Qy : Option Value → Mem → Prop} {rest : List Value} {a0 a1 : Value} (hct : Ct G l dep' yX3_firstMisplaced cX3_firstMisplaced 5 (Option.some Jvm.ClassFile.FieldType.int) [Value.ref (G.2.2.1 119), a0, a1] μ Qy) (hd : dep' < dep) (hdg : decode cc pc = .ok (.invokevirtual 174, 3)) (hn : pc + 3 = n) (hrest : (rest.map fun v => v.category).sum ≤ 8) (k : ∀ (r : Option Value) (μ' : Mem), Qy r μ' → V G l RX7 cc nL dep lg ret Q n lo (r.toList ++ rest) μ') : V G l RX7 cc nL dep lg ret Q pc lo (a1 :: a0 :: .ref (G.2.2.1 119) :: rest) μ := R_callV (ci := 3) (id := 119) (As := [a0, a1]) hct hd (by decide) rfl tM_RX7_174 tI_yX3_firstMisplaced tS_yX3_firstMisplaced tN_RX3 tC_yX3_firstMisplaced ok_yX3_firstMisplaced rfl rfl sh_119 rfl hrest hdg hn k
theorem iv_X3_119 {dep' : Nat} {Qy : Option Value → Mem → Prop} {rest : List Value} (hct : Ct G l dep' yX1_atBasin cX1_atBasin 2 (Option.some (Jvm.ClassFile.FieldType.object "EelLocks$State")) [Value.ref (G.2.2.1 3)] μ Qy) (hd : dep' < dep) (hdg : decode cc pc = .ok (.invokevirtual 119, 3)) (hn : pc + 3 = n) (hrest : (rest.map fun v => v.category).sum ≤ 8) (k : ∀ (r : Option Value) (μ' : Mem), Qy r μ' → V G l RX3 cc nL dep lg ret Q n lo (r.toList ++ rest) μ') : V G l RX3 cc nL dep lg ret Q pc lo (.ref (G.2.2.1 3) :: rest) μ := R_callV (ci := 1) (id := 3) (As := []) hct hd (by decide) rfl tM_RX3_119 tI_yX1_atBasin tS_yX1_atBasin tN_RX1 tC_yX1_atBasin ok_yX1_atBasin rfl rfl sh_3 rfl hrest hdg hn k
theorem ok_yX7_share : okY yX7_share 2 := ⟨by decide +kernel, by decide +kernel, by decide +kernel⟩
theorem iv_L_89 {dep' : Nat} {Qy : Option Value → Mem → Prop} {rest : List Value} {a0 a1 : Value} (hct : Ct G l dep' yX7_share cX7_share 3 (Option.some Jvm.ClassFile.FieldType.int) [Value.ref (G.2.2.1 0), a0, a1] μ Qy) (hd : dep' < dep) (hdg : decode cc pc = .ok (.invokevirtual 89, 3)) (hn : pc + 3 = n) (hrest : (rest.map fun v => v.category).sum ≤ 8) (k : ∀ (r : Option Value) (μ' : Mem), Qy r μ' → V G l RL cc nL dep lg ret Q n lo (r.toList ++ rest) μ') : V G l RL cc nL dep lg ret Q pc lo (a1 :: a0 :: .ref (G.2.2.1 0) :: rest) μ := R_callV (ci := 7) (id := 0) (As := [a0, a1]) hct hd (by decide) rfl tM_RL_89 tI_yX7_share tS_yX7_share tN_RX7 tC_yX7_share ok_yX7_share rfl rfl sh_0 rfl hrest hdg hn k
theorem ok_yX3_shareAbove : okY yX3_shareAbove 2 := ⟨by decide +kernel, by decide +kernel, by decide +kernel⟩
theorem iv_X7_177 {dep' : Nat} {Qy : Option Value → Mem → Prop} {rest : List Value} {a0 a1 : Value} (hct : Ct G l dep' yX3_shareAbove cX3_shareAbove 8 (Option.some Jvm.ClassFile.FieldType.int) [Value.ref (G.2.2.1 119), a0, a1] μ Qy) (hd : dep' < dep) (hdg : decode cc pc = .ok (.invokevirtual 177, 3)) (hn : pc + 3 = n) (hrest : (rest.map fun v => v.category).sum ≤ 8) (k : ∀ (r : Option Value) (μ' : Mem), Qy r μ' → V G l RX7 cc nL dep lg ret Q n lo (r.toList ++ rest) μ') : V G l RX7 cc nL dep lg ret Q pc lo (a1 :: a0 :: .ref (G.2.2.1 119) :: rest) μ := R_callV (ci := 3) (id := 119) (As := [a0, a1]) hct hd (by decide) rfl tM_RX7_177 tI_yX3_shareAbove tS_yX3_shareAbove tN_RX3 tC_yX3_shareAbove ok_yX3_shareAbove rfl rfl sh_119 rfl hrest hdg hn k
theorem ok_yJ6_bitCount_0f7a4 : okY yJ6_bitCount_0f7a4 1 := ⟨by decide +kernel, by decide +kernel, by decide +kernel⟩
theorem iv_X3_122 {dep' : Nat} {Qy : Option Value → Mem → Prop} {rest : List Value} {a0 : Value} (hct : Ct G l dep' yJ6_bitCount_0f7a4 cJ6_bitCount_0f7a4 1 (Option.some Jvm.ClassFile.FieldType.int) [a0] μ Qy) (hd : dep' < dep) (hdg : decode cc pc = .ok (.invokestatic 122, 3)) (hn : pc + 3 = n) (hrest : (rest.map fun v => v.category).sum ≤ 8) (k : ∀ (r : Option Value) (μ' : Mem), Qy r μ' → V G l RX3 cc nL dep lg ret Q n lo (r.toList ++ rest) μ') : V G l RX3 cc nL dep lg ret Q pc lo (a0 :: rest) μ := R_callS hct hd (by decide) tM_RX3_122 tT_yJ6_bitCount_0f7a4 tN_RJ6 tC_yJ6_bitCount_0f7a4 ok_yJ6_bitCount_0f7a4 rfl rfl hrest hdg hn k
theorem ok_yX3_lastHourOf : okY yX3_lastHourOf 2 := ⟨by decide +kernel, by decide +kernel, by decide +kernel⟩
theorem iv_X3_127 {dep' : Nat} {Qy : Option Value → Mem → Prop} {rest : List Value} {a0 a1 : Value} (hct : Ct G l dep' yX3_lastHourOf cX3_lastHourOf 6 (Option.some Jvm.ClassFile.FieldType.int) [Value.ref (G.2.2.1 119), a0, a1] μ Qy) (hd : dep' < dep) (hdg : decode cc pc = .ok (.invokevirtual 127, 3)) (hn : pc + 3 = n) (hrest : (rest.map fun v => v.category).sum ≤ 8) (k : ∀ (r : Option Value) (μ' : Mem), Qy r μ' → V G l RX3 cc nL dep lg ret Q n lo (r.toList ++ rest) μ') : V G l RX3 cc nL dep lg ret Q pc lo (a1 :: a0 :: .ref (G.2.2.1 119) :: rest) μ := R_callV (ci := 3) (id := 119) (As := [a0, a1]) hct hd (by decide) rfl tM_RX3_127 tI_yX3_lastHourOf tS_yX3_lastHourOf tN_RX3 tC_yX3_lastHourOf ok_yX3_lastHourOf rfl rfl sh_119 rfl hrest hdg hn k
theorem iv_X3_131 {dep' : Nat} {Qy : Option Value → Mem → Prop} {rest : List Value} {id : Nat} (hct : Ct G l dep' yX5_clearHours cX5_clearHours 2 (Option.none : Option Jvm.ClassFile.FieldType) [Value.ref (G.2.2.1 id)] μ Qy) (hs : StB id) (hd : dep' < dep) (hdg : decode cc pc = .ok (.invokevirtual 131, 3)) (hn : pc + 3 = n) (hrest : (rest.map fun v => v.category).sum ≤ 8) (k : ∀ (r : Option Value) (μ' : Mem), Qy r μ' → V G l RX3 cc nL dep lg ret Q n lo (r.toList ++ rest) μ') : V G l RX3 cc nL dep lg ret Q pc lo (.ref (G.2.2.1 id) :: rest) μ := R_callV (ci := 5) (id := id) (As := []) hct hd (by decide) rfl tM_RX3_131 tI_yX5_clearHours tS_yX5_clearHours tN_RX5 tC_yX5_clearHours ok_yX5_clearHours rfl rfl hs.1 rfl hrest hdg hn k
theorem ok_yX5_greatestHour : okY yX5_greatestHour 0 := ⟨by decide +kernel, by decide +kernel, by decide +kernel⟩
theorem iv_X3_137 {dep' : Nat} {Qy : Option Value → Mem → Prop} {rest : List Value} {id : Nat} (hct : Ct G l dep' yX5_greatestHour cX5_greatestHour 3 (Option.some Jvm.ClassFile.FieldType.int) [Value.ref (G.2.2.1 id)] μ Qy) (hs : StB id) (hd : dep' < dep) (hdg : decode cc pc = .ok (.invokevirtual 137, 3)) (hn : pc + 3 = n) (hrest : (rest.map fun v => v.category).sum ≤ 8) (k : ∀ (r : Option Value) (μ' : Mem), Qy r μ' → V G l RX3 cc nL dep lg ret Q n lo (r.toList ++ rest) μ') : V G l RX3 cc nL dep lg ret Q pc lo (.ref (G.2.2.1 id) :: rest) μ := R_callV (ci := 5) (id := id) (As := []) hct hd (by decide) rfl tM_RX3_137 tI_yX5_greatestHour tS_yX5_greatestHour tN_RX5 tC_yX5_greatestHour ok_yX5_greatestHour rfl rfl hs.1 rfl hrest hdg hn k
theorem iv_X5_43 {dep' : Nat} {Qy : Option Value → Mem → Prop} {rest : List Value} {a0 a1 : Value} (hct : Ct G l dep' yJ9_max_7cf53 cJ9_max_7cf53 2 (Option.some Jvm.ClassFile.FieldType.int) [a0, a1] μ Qy) (hd : dep' < dep) (hdg : decode cc pc = .ok (.invokestatic 43, 3)) (hn : pc + 3 = n) (hrest : (rest.map fun v => v.category).sum ≤ 8) (k : ∀ (r : Option Value) (μ' : Mem), Qy r μ' → V G l RX5 cc nL dep lg ret Q n lo (r.toList ++ rest) μ') : V G l RX5 cc nL dep lg ret Q pc lo (a1 :: a0 :: rest) μ := R_callS hct hd (by decide) tM_RX5_43 tT_yJ9_max_7cf53 tN_RJ9 tC_yJ9_max_7cf53 ok_yJ9_max_7cf53 rfl rfl hrest hdg hn k
theorem ok_yX7_tellFraction : okY yX7_tellFraction 3 := ⟨by decide +kernel, by decide +kernel, by decide +kernel⟩
theorem iv_X7_183 {dep' : Nat} {Qy : Option Value → Mem → Prop} {rest : List Value} {a0 a1 a2 : Value} (hct : Ct G l dep' yX7_tellFraction cX7_tellFraction 5 (Option.some Jvm.ClassFile.FieldType.int) [a0, a1, a2] μ Qy) (hd : dep' < dep) (hdg : decode cc pc = .ok (.invokestatic 183, 3)) (hn : pc + 3 = n) (hrest : (rest.map fun v => v.category).sum ≤ 8) (k : ∀ (r : Option Value) (μ' : Mem), Qy r μ' → V G l RX7 cc nL dep lg ret Q n lo (r.toList ++ rest) μ') : V G l RX7 cc nL dep lg ret Q pc lo (a2 :: a1 :: a0 :: rest) μ := R_callS hct hd (by decide) tM_RX7_183 tT_yX7_tellFraction tN_RX7 tC_yX7_tellFraction ok_yX7_tellFraction rfl rfl hrest hdg hn k
theorem ok_yJ9_abs_0f7a4 : okY yJ9_abs_0f7a4 1 := ⟨by decide +kernel, by decide +kernel, by decide +kernel⟩
theorem iv_X7_260 {dep' : Nat} {Qy : Option Value → Mem → Prop} {rest : List Value} {a0 : Value} (hct : Ct G l dep' yJ9_abs_0f7a4 cJ9_abs_0f7a4 1 (Option.some Jvm.ClassFile.FieldType.int) [a0] μ Qy) (hd : dep' < dep) (hdg : decode cc pc = .ok (.invokestatic 260, 3)) (hn : pc + 3 = n) (hrest : (rest.map fun v => v.category).sum ≤ 8) (k : ∀ (r : Option Value) (μ' : Mem), Qy r μ' → V G l RX7 cc nL dep lg ret Q n lo (r.toList ++ rest) μ') : V G l RX7 cc nL dep lg ret Q pc lo (a0 :: rest) μ := R_callS hct hd (by decide) tM_RX7_260 tT_yJ9_abs_0f7a4 tN_RJ9 tC_yJ9_abs_0f7a4 ok_yJ9_abs_0f7a4 rfl rfl hrest hdg hn k
theorem ok_yX7_greatestDivisor : okY yX7_greatestDivisor 2 := ⟨by decide +kernel, by decide +kernel, by decide +kernel⟩
theorem iv_X7_265 {dep' : Nat} {Qy : Option Value → Mem → Prop} {rest : List Value} {a0 a1 : Value} (hct : Ct G l dep' yX7_greatestDivisor cX7_greatestDivisor 6 (Option.some Jvm.ClassFile.FieldType.int) [a0, a1] μ Qy) (hd : dep' < dep) (hdg : decode cc pc = .ok (.invokestatic 265, 3)) (hn : pc + 3 = n) (hrest : (rest.map fun v => v.category).sum ≤ 8) (k : ∀ (r : Option Value) (μ' : Mem), Qy r μ' → V G l RX7 cc nL dep lg ret Q n lo (r.toList ++ rest) μ') : V G l RX7 cc nL dep lg ret Q pc lo (a1 :: a0 :: rest) μ := R_callS hct hd (by decide) tM_RX7_265 tT_yX7_greatestDivisor tN_RX7 tC_yX7_greatestDivisor ok_yX7_greatestDivisor rfl rfl hrest hdg hn k
theorem ok_yX7_gave : okY yX7_gave 3 := ⟨by decide +kernel, by decide +kernel, by decide +kernel⟩
theorem iv_L_94 {dep' : Nat} {Qy : Option Value → Mem → Prop} {rest : List Value} {a0 a1 a2 : Value} (hct : Ct G l dep' yX7_gave cX7_gave 4 (Option.some Jvm.ClassFile.FieldType.int) [Value.ref (G.2.2.1 0), a0, a1, a2] μ Qy) (hd : dep' < dep) (hdg : decode cc pc = .ok (.invokevirtual 94, 3)) (hn : pc + 3 = n) (hrest : (rest.map fun v => v.category).sum ≤ 8) (k : ∀ (r : Option Value) (μ' : Mem), Qy r μ' → V G l RL cc nL dep lg ret Q n lo (r.toList ++ rest) μ') : V G l RL cc nL dep lg ret Q pc lo (a2 :: a1 :: a0 :: .ref (G.2.2.1 0) :: rest) μ := R_callV (ci := 7) (id := 0) (As := [a0, a1, a2]) hct hd (by decide) rfl tM_RL_94 tI_yX7_gave tS_yX7_gave tN_RX7 tC_yX7_gave ok_yX7_gave rfl rfl sh_0 rfl hrest hdg hn k
theorem ok_yX3_areAllBarges : okY yX3_areAllBarges 2 := ⟨by decide +kernel, by decide +kernel, by decide +kernel⟩
theorem iv_X7_187 {dep' : Nat} {Qy : Option Value → Mem → Prop} {rest : List Value} {a0 a1 : Value} (hct : Ct G l dep' yX3_areAllBarges cX3_areAllBarges 5 (Option.some Jvm.ClassFile.FieldType.boolean) [Value.ref (G.2.2.1 119), a0, a1] μ Qy) (hd : dep' < dep) (hdg : decode cc pc = .ok (.invokevirtual 187, 3)) (hn : pc + 3 = n) (hrest : (rest.map fun v => v.category).sum ≤ 8) (k : ∀ (r : Option Value) (μ' : Mem), Qy r μ' → V G l RX7 cc nL dep lg ret Q n lo (r.toList ++ rest) μ') : V G l RX7 cc nL dep lg ret Q pc lo (a1 :: a0 :: .ref (G.2.2.1 119) :: rest) μ := R_callV (ci := 3) (id := 119) (As := [a0, a1]) hct hd (by decide) rfl tM_RX7_187 tI_yX3_areAllBarges tS_yX3_areAllBarges tN_RX3 tC_yX3_areAllBarges ok_yX3_areAllBarges rfl rfl sh_119 rfl hrest hdg hn k
theorem iv_X3_116 {dep' : Nat} {Qy : Option Value → Mem → Prop} {rest : List Value} {a0 a1 : Value} (hct : Ct G l dep' yX3_spread cX3_spread 5 (Option.some Jvm.ClassFile.FieldType.boolean) [Value.ref (G.2.2.1 119), a0, a1] μ Qy) (hd : dep' < dep) (hdg : decode cc pc = .ok (.invokevirtual 116, 3)) (hn : pc + 3 = n) (hrest : (rest.map fun v => v.category).sum ≤ 8) (k : ∀ (r : Option Value) (μ' : Mem), Qy r μ' → V G l RX3 cc nL dep lg ret Q n lo (r.toList ++ rest) μ') : V G l RX3 cc nL dep lg ret Q pc lo (a1 :: a0 :: .ref (G.2.2.1 119) :: rest) μ := R_callV (ci := 3) (id := 119) (As := [a0, a1]) hct hd (by decide) rfl tM_RX3_116 tI_yX3_spread tS_yX3_spread tN_RX3 tC_yX3_spread ok_yX3_spread rfl rfl sh_119 rfl hrest hdg hn k
theorem ok_yX2_findGivers : okY yX2_findGivers 3 := ⟨by decide +kernel, by decide +kernel, by decide +kernel⟩
theorem iv_X7_191 {dep' : Nat} {Qy : Option Value → Mem → Prop} {rest : List Value} {a0 a1 a2 : Value} (hct : Ct G l dep' yX2_findGivers cX2_findGivers 7 (Option.none : Option Jvm.ClassFile.FieldType) [Value.ref (G.2.2.1 122), a0, a1, a2] μ Qy) (hd : dep' < dep) (hdg : decode cc pc = .ok (.invokevirtual 191, 3)) (hn : pc + 3 = n) (hrest : (rest.map fun v => v.category).sum ≤ 8) (k : ∀ (r : Option Value) (μ' : Mem), Qy r μ' → V G l RX7 cc nL dep lg ret Q n lo (r.toList ++ rest) μ') : V G l RX7 cc nL dep lg ret Q pc lo (a2 :: a1 :: a0 :: .ref (G.2.2.1 122) :: rest) μ := R_callV (ci := 2) (id := 122) (As := [a0, a1, a2]) hct hd (by decide) rfl tM_RX7_191 tI_yX2_findGivers tS_yX2_findGivers tN_RX2 tC_yX2_findGivers ok_yX2_findGivers rfl rfl sh_122 rfl hrest hdg hn k
theorem ok_yX2_comesOutSo : okY yX2_comesOutSo 4 := ⟨by decide +kernel, by decide +kernel, by decide +kernel⟩
theorem iv_X2_30 {dep' : Nat} {Qy : Option Value → Mem → Prop} {rest : List Value} {a0 a1 a2 a3 : Value} (hct : Ct G l dep' yX2_comesOutSo cX2_comesOutSo 6 (Option.some Jvm.ClassFile.FieldType.boolean) [Value.ref (G.2.2.1 122), a0, a1, a2, a3] μ Qy) (hd : dep' < dep) (hdg : decode cc pc = .ok (.invokevirtual 30, 3)) (hn : pc + 3 = n) (hrest : (rest.map fun v => v.category).sum ≤ 8) (k : ∀ (r : Option Value) (μ' : Mem), Qy r μ' → V G l RX2 cc nL dep lg ret Q n lo (r.toList ++ rest) μ') : V G l RX2 cc nL dep lg ret Q pc lo (a3 :: a2 :: a1 :: a0 :: .ref (G.2.2.1 122) :: rest) μ := R_callV (ci := 2) (id := 122) (As := [a0, a1, a2, a3]) hct hd (by decide) rfl tM_RX2_30 tI_yX2_comesOutSo tS_yX2_comesOutSo tN_RX2 tC_yX2_comesOutSo ok_yX2_comesOutSo rfl rfl sh_122 rfl hrest hdg hn k
theorem iv_X2_37 {dep' : Nat} {Qy : Option Value → Mem → Prop} {rest : List Value} (hct : Ct G l dep' yX1_newTrial cX1_newTrial 1 (Option.some (Jvm.ClassFile.FieldType.object "EelLocks$State")) [Value.ref (G.2.2.1 3)] μ Qy) (hd : dep' < dep) (hdg : decode cc pc = .ok (.invokevirtual 37, 3)) (hn : pc + 3 = n) (hrest : (rest.map fun v => v.category).sum ≤ 8) (k : ∀ (r : Option Value) (μ' : Mem), Qy r μ' → V G l RX2 cc nL dep lg ret Q n lo (r.toList ++ rest) μ') : V G l RX2 cc nL dep lg ret Q pc lo (.ref (G.2.2.1 3) :: rest) μ := R_callV (ci := 1) (id := 3) (As := []) hct hd (by decide) rfl tM_RX2_37 tI_yX1_newTrial tS_yX1_newTrial tN_RX1 tC_yX1_newTrial ok_yX1_newTrial rfl rfl sh_3 rfl hrest hdg hn k
theorem ok_yX2_addGivers : okY yX2_addGivers 4 := ⟨by decide +kernel, by decide +kernel, by decide +kernel⟩
theorem iv_X2_46 {dep' : Nat} {Qy : Option Value → Mem → Prop} {rest : List Value} {a0 a1 a2 a3 : Value} (hct : Ct G l dep' yX2_addGivers cX2_addGivers 6 (Option.none : Option Jvm.ClassFile.FieldType) [Value.ref (G.2.2.1 122), a0, a1, a2, a3] μ Qy) (hd : dep' < dep) (hdg : decode cc pc = .ok (.invokevirtual 46, 3)) (hn : pc + 3 = n) (hrest : (rest.map fun v => v.category).sum ≤ 8) (k : ∀ (r : Option Value) (μ' : Mem), Qy r μ' → V G l RX2 cc nL dep lg ret Q n lo (r.toList ++ rest) μ') : V G l RX2 cc nL dep lg ret Q pc lo (a3 :: a2 :: a1 :: a0 :: .ref (G.2.2.1 122) :: rest) μ := R_callV (ci := 2) (id := 122) (As := [a0, a1, a2, a3]) hct hd (by decide) rfl tM_RX2_46 tI_yX2_addGivers tS_yX2_addGivers tN_RX2 tC_yX2_addGivers ok_yX2_addGivers rfl rfl sh_122 rfl hrest hdg hn k
theorem iv_X2_58 {dep' : Nat} {Qy : Option Value → Mem → Prop} {rest : List Value} {a0 a1 a2 : Value} {id : Nat} (hct : Ct G l dep' yX5_addLoads cX5_addLoads 4 (Option.none : Option Jvm.ClassFile.FieldType) [Value.ref (G.2.2.1 id), a0, a1, a2] μ Qy) (hs : StB id) (hd : dep' < dep) (hdg : decode cc pc = .ok (.invokevirtual 58, 3)) (hn : pc + 3 = n) (hrest : (rest.map fun v => v.category).sum ≤ 8) (k : ∀ (r : Option Value) (μ' : Mem), Qy r μ' → V G l RX2 cc nL dep lg ret Q n lo (r.toList ++ rest) μ') : V G l RX2 cc nL dep lg ret Q pc lo (a2 :: a1 :: a0 :: .ref (G.2.2.1 id) :: rest) μ := R_callV (ci := 5) (id := id) (As := [a0, a1, a2]) hct hd (by decide) rfl tM_RX2_58 tI_yX5_addLoads tS_yX5_addLoads tN_RX5 tC_yX5_addLoads ok_yX5_addLoads rfl rfl hs.1 rfl hrest hdg hn k
theorem iv_X2_50 {dep' : Nat} {Qy : Option Value → Mem → Prop} {rest : List Value} {a0 a1 : Value} (hct : Ct G l dep' yX1_goOnTo cX1_goOnTo 4 (Option.none : Option Jvm.ClassFile.FieldType) [Value.ref (G.2.2.1 3), a0, a1] μ Qy) (hd : dep' < dep) (hdg : decode cc pc = .ok (.invokevirtual 50, 3)) (hn : pc + 3 = n) (hrest : (rest.map fun v => v.category).sum ≤ 8) (k : ∀ (r : Option Value) (μ' : Mem), Qy r μ' → V G l RX2 cc nL dep lg ret Q n lo (r.toList ++ rest) μ') : V G l RX2 cc nL dep lg ret Q pc lo (a1 :: a0 :: .ref (G.2.2.1 3) :: rest) μ := R_callV (ci := 1) (id := 3) (As := [a0, a1]) hct hd (by decide) rfl tM_RX2_50 tI_yX1_goOnTo tS_yX1_goOnTo tN_RX1 tC_yX1_goOnTo ok_yX1_goOnTo rfl rfl sh_3 rfl hrest hdg hn k
theorem iv_X2_54 {dep' : Nat} {Qy : Option Value → Mem → Prop} {rest : List Value} {id : Nat} (hct : Ct G l dep' yX5_figures cX5_figures 3 (Option.some Jvm.ClassFile.FieldType.int) [Value.ref (G.2.2.1 id)] μ Qy) (hs : StB id) (hd : dep' < dep) (hdg : decode cc pc = .ok (.invokevirtual 54, 3)) (hn : pc + 3 = n) (hrest : (rest.map fun v => v.category).sum ≤ 8) (k : ∀ (r : Option Value) (μ' : Mem), Qy r μ' → V G l RX2 cc nL dep lg ret Q n lo (r.toList ++ rest) μ') : V G l RX2 cc nL dep lg ret Q pc lo (.ref (G.2.2.1 id) :: rest) μ := R_callV (ci := 5) (id := id) (As := []) hct hd (by decide) rfl tM_RX2_54 tI_yX5_figures tS_yX5_figures tN_RX5 tC_yX5_figures ok_yX5_figures rfl rfl hs.1 rfl hrest hdg hn k
theorem ok_yX7_rests : okY yX7_rests 4 := ⟨by decide +kernel, by decide +kernel, by decide +kernel⟩
theorem iv_L_99 {dep' : Nat} {Qy : Option Value → Mem → Prop} {rest : List Value} {a0 a1 a2 a3 : Value} (hct : Ct G l dep' yX7_rests cX7_rests 5 (Option.some Jvm.ClassFile.FieldType.int) [Value.ref (G.2.2.1 0), a0, a1, a2, a3] μ Qy) (hd : dep' < dep) (hdg : decode cc pc = .ok (.invokevirtual 99, 3)) (hn : pc + 3 = n) (hrest : (rest.map fun v => v.category).sum ≤ 8) (k : ∀ (r : Option Value) (μ' : Mem), Qy r μ' → V G l RL cc nL dep lg ret Q n lo (r.toList ++ rest) μ') : V G l RL cc nL dep lg ret Q pc lo (a3 :: a2 :: a1 :: a0 :: .ref (G.2.2.1 0) :: rest) μ := R_callV (ci := 7) (id := 0) (As := [a0, a1, a2, a3]) hct hd (by decide) rfl tM_RL_99 tI_yX7_rests tS_yX7_rests tN_RX7 tC_yX7_rests ok_yX7_rests rfl rfl sh_0 rfl hrest hdg hn k
theorem ok_yX2_findRests : okY yX2_findRests 4 := ⟨by decide +kernel, by decide +kernel, by decide +kernel⟩
theorem iv_X7_204 {dep' : Nat} {Qy : Option Value → Mem → Prop} {rest : List Value} {a0 a1 a2 a3 : Value} (hct : Ct G l dep' yX2_findRests cX2_findRests 7 (Option.none : Option Jvm.ClassFile.FieldType) [Value.ref (G.2.2.1 122), a0, a1, a2, a3] μ Qy) (hd : dep' < dep) (hdg : decode cc pc = .ok (.invokevirtual 204, 3)) (hn : pc + 3 = n) (hrest : (rest.map fun v => v.category).sum ≤ 8) (k : ∀ (r : Option Value) (μ' : Mem), Qy r μ' → V G l RX7 cc nL dep lg ret Q n lo (r.toList ++ rest) μ') : V G l RX7 cc nL dep lg ret Q pc lo (a3 :: a2 :: a1 :: a0 :: .ref (G.2.2.1 122) :: rest) μ := R_callV (ci := 2) (id := 122) (As := [a0, a1, a2, a3]) hct hd (by decide) rfl tM_RX7_204 tI_yX2_findRests tS_yX2_findRests tN_RX2 tC_yX2_findRests ok_yX2_findRests rfl rfl sh_122 rfl hrest hdg hn k
theorem ok_yX2_findLosses : okY yX2_findLosses 4 := ⟨by decide +kernel, by decide +kernel, by decide +kernel⟩
theorem iv_X2_62 {dep' : Nat} {Qy : Option Value → Mem → Prop} {rest : List Value} {a0 a1 a2 a3 : Value} (hct : Ct G l dep' yX2_findLosses cX2_findLosses 8 (Option.none : Option Jvm.ClassFile.FieldType) [Value.ref (G.2.2.1 122), a0, a1, a2, a3] μ Qy) (hd : dep' < dep) (hdg : decode cc pc = .ok (.invokevirtual 62, 3)) (hn : pc + 3 = n) (hrest : (rest.map fun v => v.category).sum ≤ 8) (k : ∀ (r : Option Value) (μ' : Mem), Qy r μ' → V G l RX2 cc nL dep lg ret Q n lo (r.toList ++ rest) μ') : V G l RX2 cc nL dep lg ret Q pc lo (a3 :: a2 :: a1 :: a0 :: .ref (G.2.2.1 122) :: rest) μ := R_callV (ci := 2) (id := 122) (As := [a0, a1, a2, a3]) hct hd (by decide) rfl tM_RX2_62 tI_yX2_findLosses tS_yX2_findLosses tN_RX2 tC_yX2_findLosses ok_yX2_findLosses rfl rfl sh_122 rfl hrest hdg hn k
theorem iv_X2_76 {dep' : Nat} {Qy : Option Value → Mem → Prop} {rest : List Value} {a0 : Value} {id : Nat} (hct : Ct G l dep' yX5_placeOf cX5_placeOf 3 (Option.some Jvm.ClassFile.FieldType.int) [Value.ref (G.2.2.1 id), a0] μ Qy) (hs : StB id) (hd : dep' < dep) (hdg : decode cc pc = .ok (.invokevirtual 76, 3)) (hn : pc + 3 = n) (hrest : (rest.map fun v => v.category).sum ≤ 8) (k : ∀ (r : Option Value) (μ' : Mem), Qy r μ' → V G l RX2 cc nL dep lg ret Q n lo (r.toList ++ rest) μ') : V G l RX2 cc nL dep lg ret Q pc lo (a0 :: .ref (G.2.2.1 id) :: rest) μ := R_callV (ci := 5) (id := id) (As := [a0]) hct hd (by decide) rfl tM_RX2_76 tI_yX5_placeOf tS_yX5_placeOf tN_RX5 tC_yX5_placeOf ok_yX5_placeOf rfl rfl hs.1 rfl hrest hdg hn k
theorem ok_yX2_isAtRest : okY yX2_isAtRest 2 := ⟨by decide +kernel, by decide +kernel, by decide +kernel⟩
theorem iv_X2_69 {dep' : Nat} {Qy : Option Value → Mem → Prop} {rest : List Value} {a0 a1 : Value} (hct : Ct G l dep' yX2_isAtRest cX2_isAtRest 4 (Option.some Jvm.ClassFile.FieldType.boolean) [Value.ref (G.2.2.1 122), a0, a1] μ Qy) (hd : dep' < dep) (hdg : decode cc pc = .ok (.invokevirtual 69, 3)) (hn : pc + 3 = n) (hrest : (rest.map fun v => v.category).sum ≤ 8) (k : ∀ (r : Option Value) (μ' : Mem), Qy r μ' → V G l RX2 cc nL dep lg ret Q n lo (r.toList ++ rest) μ') : V G l RX2 cc nL dep lg ret Q pc lo (a1 :: a0 :: .ref (G.2.2.1 122) :: rest) μ := R_callV (ci := 2) (id := 122) (As := [a0, a1]) hct hd (by decide) rfl tM_RX2_69 tI_yX2_isAtRest tS_yX2_isAtRest tN_RX2 tC_yX2_isAtRest ok_yX2_isAtRest rfl rfl sh_122 rfl hrest hdg hn k
theorem ok_yX7_asleep : okY yX7_asleep 4 := ⟨by decide +kernel, by decide +kernel, by decide +kernel⟩
theorem iv_L_104 {dep' : Nat} {Qy : Option Value → Mem → Prop} {rest : List Value} {a0 a1 a2 a3 : Value} (hct : Ct G l dep' yX7_asleep cX7_asleep 6 (Option.some Jvm.ClassFile.FieldType.int) [Value.ref (G.2.2.1 0), a0, a1, a2, a3] μ Qy) (hd : dep' < dep) (hdg : decode cc pc = .ok (.invokevirtual 104, 3)) (hn : pc + 3 = n) (hrest : (rest.map fun v => v.category).sum ≤ 8) (k : ∀ (r : Option Value) (μ' : Mem), Qy r μ' → V G l RL cc nL dep lg ret Q n lo (r.toList ++ rest) μ') : V G l RL cc nL dep lg ret Q pc lo (a3 :: a2 :: a1 :: a0 :: .ref (G.2.2.1 0) :: rest) μ := R_callV (ci := 7) (id := 0) (As := [a0, a1, a2, a3]) hct hd (by decide) rfl tM_RL_104 tI_yX7_asleep tS_yX7_asleep tN_RX7 tC_yX7_asleep ok_yX7_asleep rfl rfl sh_0 rfl hrest hdg hn k
theorem ok_yX7_power : okY yX7_power 2 := ⟨by decide +kernel, by decide +kernel, by decide +kernel⟩
theorem iv_X7_211 {dep' : Nat} {Qy : Option Value → Mem → Prop} {rest : List Value} {a0 a1 : Value} (hct : Ct G l dep' yX7_power cX7_power 4 (Option.some Jvm.ClassFile.FieldType.int) [a0, a1] μ Qy) (hd : dep' < dep) (hdg : decode cc pc = .ok (.invokestatic 211, 3)) (hn : pc + 3 = n) (hrest : (rest.map fun v => v.category).sum ≤ 8) (k : ∀ (r : Option Value) (μ' : Mem), Qy r μ' → V G l RX7 cc nL dep lg ret Q n lo (r.toList ++ rest) μ') : V G l RX7 cc nL dep lg ret Q pc lo (a1 :: a0 :: rest) μ := R_callS hct hd (by decide) tM_RX7_211 tT_yX7_power tN_RX7 tC_yX7_power ok_yX7_power rfl rfl hrest hdg hn k
theorem ok_yX2_asleepAbove : okY yX2_asleepAbove 4 := ⟨by decide +kernel, by decide +kernel, by decide +kernel⟩
theorem iv_X7_214 {dep' : Nat} {Qy : Option Value → Mem → Prop} {rest : List Value} {a0 a1 a2 a3 : Value} (hct : Ct G l dep' yX2_asleepAbove cX2_asleepAbove 9 (Option.some Jvm.ClassFile.FieldType.int) [Value.ref (G.2.2.1 122), a0, a1, a2, a3] μ Qy) (hd : dep' < dep) (hdg : decode cc pc = .ok (.invokevirtual 214, 3)) (hn : pc + 3 = n) (hrest : (rest.map fun v => v.category).sum ≤ 8) (k : ∀ (r : Option Value) (μ' : Mem), Qy r μ' → V G l RX7 cc nL dep lg ret Q n lo (r.toList ++ rest) μ') : V G l RX7 cc nL dep lg ret Q pc lo (a3 :: a2 :: a1 :: a0 :: .ref (G.2.2.1 122) :: rest) μ := R_callV (ci := 2) (id := 122) (As := [a0, a1, a2, a3]) hct hd (by decide) rfl tM_RX7_214 tI_yX2_asleepAbove tS_yX2_asleepAbove tN_RX2 tC_yX2_asleepAbove ok_yX2_asleepAbove rfl rfl sh_122 rfl hrest hdg hn k
theorem iv_X2_80 {dep' : Nat} {Qy : Option Value → Mem → Prop} {rest : List Value} (hct : Ct G l dep' yX1_locksLeft cX1_locksLeft 1 (Option.some Jvm.ClassFile.FieldType.int) [Value.ref (G.2.2.1 3)] μ Qy) (hd : dep' < dep) (hdg : decode cc pc = .ok (.invokevirtual 80, 3)) (hn : pc + 3 = n) (hrest : (rest.map fun v => v.category).sum ≤ 8) (k : ∀ (r : Option Value) (μ' : Mem), Qy r μ' → V G l RX2 cc nL dep lg ret Q n lo (r.toList ++ rest) μ') : V G l RX2 cc nL dep lg ret Q pc lo (.ref (G.2.2.1 3) :: rest) μ := R_callV (ci := 1) (id := 3) (As := []) hct hd (by decide) rfl tM_RX2_80 tI_yX1_locksLeft tS_yX1_locksLeft tN_RX1 tC_yX1_locksLeft ok_yX1_locksLeft rfl rfl sh_3 rfl hrest hdg hn k
theorem ok_yX2_isAtWith : okY yX2_isAtWith 4 := ⟨by decide +kernel, by decide +kernel, by decide +kernel⟩
theorem iv_X2_83 {dep' : Nat} {Qy : Option Value → Mem → Prop} {rest : List Value} {a0 a1 a2 a3 : Value} (hct : Ct G l dep' yX2_isAtWith cX2_isAtWith 7 (Option.some Jvm.ClassFile.FieldType.boolean) [Value.ref (G.2.2.1 122), a0, a1, a2, a3] μ Qy) (hd : dep' < dep) (hdg : decode cc pc = .ok (.invokevirtual 83, 3)) (hn : pc + 3 = n) (hrest : (rest.map fun v => v.category).sum ≤ 8) (k : ∀ (r : Option Value) (μ' : Mem), Qy r μ' → V G l RX2 cc nL dep lg ret Q n lo (r.toList ++ rest) μ') : V G l RX2 cc nL dep lg ret Q pc lo (a3 :: a2 :: a1 :: a0 :: .ref (G.2.2.1 122) :: rest) μ := R_callV (ci := 2) (id := 122) (As := [a0, a1, a2, a3]) hct hd (by decide) rfl tM_RX2_83 tI_yX2_isAtWith tS_yX2_isAtWith tN_RX2 tC_yX2_isAtWith ok_yX2_isAtWith rfl rfl sh_122 rfl hrest hdg hn k
theorem iv_X2_98 {dep' : Nat} {Qy : Option Value → Mem → Prop} {rest : List Value} {a0 a1 : Value} {id : Nat} (hct : Ct G l dep' yX5_isAt cX5_isAt 3 (Option.some Jvm.ClassFile.FieldType.boolean) [Value.ref (G.2.2.1 id), a0, a1] μ Qy) (hs : StB id) (hd : dep' < dep) (hdg : decode cc pc = .ok (.invokevirtual 98, 3)) (hn : pc + 3 = n) (hrest : (rest.map fun v => v.category).sum ≤ 8) (k : ∀ (r : Option Value) (μ' : Mem), Qy r μ' → V G l RX2 cc nL dep lg ret Q n lo (r.toList ++ rest) μ') : V G l RX2 cc nL dep lg ret Q pc lo (a1 :: a0 :: .ref (G.2.2.1 id) :: rest) μ := R_callV (ci := 5) (id := id) (As := [a0, a1]) hct hd (by decide) rfl tM_RX2_98 tI_yX5_isAt tS_yX5_isAt tN_RX5 tC_yX5_isAt ok_yX5_isAt rfl rfl hs.1 rfl hrest hdg hn k
theorem iv_X2_86 {dep' : Nat} {Qy : Option Value → Mem → Prop} {rest : List Value} {a0 : Value} (hct : Ct G l dep' yJ6_bitCount_0f7a4 cJ6_bitCount_0f7a4 1 (Option.some Jvm.ClassFile.FieldType.int) [a0] μ Qy) (hd : dep' < dep) (hdg : decode cc pc = .ok (.invokestatic 86, 3)) (hn : pc + 3 = n) (hrest : (rest.map fun v => v.category).sum ≤ 8) (k : ∀ (r : Option Value) (μ' : Mem), Qy r μ' → V G l RX2 cc nL dep lg ret Q n lo (r.toList ++ rest) μ') : V G l RX2 cc nL dep lg ret Q pc lo (a0 :: rest) μ := R_callS hct hd (by decide) tM_RX2_86 tT_yJ6_bitCount_0f7a4 tN_RJ6 tC_yJ6_bitCount_0f7a4 ok_yJ6_bitCount_0f7a4 rfl rfl hrest hdg hn k
theorem ok_yX7_seed : okY yX7_seed 1 := ⟨by decide +kernel, by decide +kernel, by decide +kernel⟩
theorem iv_L_111 {dep' : Nat} {Qy : Option Value → Mem → Prop} {rest : List Value} {a0 : Value} (hct : Ct G l dep' yX7_seed cX7_seed 5 (Option.some Jvm.ClassFile.FieldType.long) [Value.ref (G.2.2.1 0), a0] μ Qy) (hd : dep' < dep) (hdg : decode cc pc = .ok (.invokevirtual 111, 3)) (hn : pc + 3 = n) (hrest : (rest.map fun v => v.category).sum ≤ 8) (k : ∀ (r : Option Value) (μ' : Mem), Qy r μ' → V G l RL cc nL dep lg ret Q n lo (r.toList ++ rest) μ') : V G l RL cc nL dep lg ret Q pc lo (a0 :: .ref (G.2.2.1 0) :: rest) μ := R_callV (ci := 7) (id := 0) (As := [a0]) hct hd (by decide) rfl tM_RL_111 tI_yX7_seed tS_yX7_seed tN_RX7 tC_yX7_seed ok_yX7_seed rfl rfl sh_0 rfl hrest hdg hn k
theorem ok_yX7_days : okY yX7_days 2 := ⟨by decide +kernel, by decide +kernel, by decide +kernel⟩
theorem iv_L_116 {dep' : Nat} {Qy : Option Value → Mem → Prop} {rest : List Value} {a0 a1 : Value} (hct : Ct G l dep' yX7_days cX7_days 6 (Option.some Jvm.ClassFile.FieldType.int) [Value.ref (G.2.2.1 0), a0, a1] μ Qy) (hd : dep' < dep) (hdg : decode cc pc = .ok (.invokevirtual 116, 3)) (hn : pc + 3 = n) (hrest : (rest.map fun v => v.category).sum ≤ 8) (k : ∀ (r : Option Value) (μ' : Mem), Qy r μ' → V G l RL cc nL dep lg ret Q n lo (r.toList ++ rest) μ') : V G l RL cc nL dep lg ret Q pc lo (a1 :: a0 :: .ref (G.2.2.1 0) :: rest) μ := R_callV (ci := 7) (id := 0) (As := [a0, a1]) hct hd (by decide) rfl tM_RL_116 tI_yX7_days tS_yX7_days tN_RX7 tC_yX7_days ok_yX7_days rfl rfl sh_0 rfl hrest hdg hn k
theorem ok_yX2_isFirstIfAllGive : okY yX2_isFirstIfAllGive 3 := ⟨by decide +kernel, by decide +kernel, by decide +kernel⟩
theorem iv_X7_228 {dep' : Nat} {Qy : Option Value → Mem → Prop} {rest : List Value} {a0 a1 a2 : Value} (hct : Ct G l dep' yX2_isFirstIfAllGive cX2_isFirstIfAllGive 6 (Option.some Jvm.ClassFile.FieldType.boolean) [Value.ref (G.2.2.1 122), a0, a1, a2] μ Qy) (hd : dep' < dep) (hdg : decode cc pc = .ok (.invokevirtual 228, 3)) (hn : pc + 3 = n) (hrest : (rest.map fun v => v.category).sum ≤ 8) (k : ∀ (r : Option Value) (μ' : Mem), Qy r μ' → V G l RX7 cc nL dep lg ret Q n lo (r.toList ++ rest) μ') : V G l RX7 cc nL dep lg ret Q pc lo (a2 :: a1 :: a0 :: .ref (G.2.2.1 122) :: rest) μ := R_callV (ci := 2) (id := 122) (As := [a0, a1, a2]) hct hd (by decide) rfl tM_RX7_228 tI_yX2_isFirstIfAllGive tS_yX2_isFirstIfAllGive tN_RX2 tC_yX2_isFirstIfAllGive ok_yX2_isFirstIfAllGive rfl rfl sh_122 rfl hrest hdg hn k
theorem ok_yX7_keep : okY yX7_keep 1 := ⟨by decide +kernel, by decide +kernel, by decide +kernel⟩
theorem iv_L_120 {dep' : Nat} {Qy : Option Value → Mem → Prop} {rest : List Value} {a0 : Value} (hct : Ct G l dep' yX7_keep cX7_keep 2 (Option.some Jvm.ClassFile.FieldType.int) [Value.ref (G.2.2.1 0), a0] μ Qy) (hd : dep' < dep) (hdg : decode cc pc = .ok (.invokevirtual 120, 3)) (hn : pc + 3 = n) (hrest : (rest.map fun v => v.category).sum ≤ 8) (k : ∀ (r : Option Value) (μ' : Mem), Qy r μ' → V G l RL cc nL dep lg ret Q n lo (r.toList ++ rest) μ') : V G l RL cc nL dep lg ret Q pc lo (a0 :: .ref (G.2.2.1 0) :: rest) μ := R_callV (ci := 7) (id := 0) (As := [a0]) hct hd (by decide) rfl tM_RL_120 tI_yX7_keep tS_yX7_keep tN_RX7 tC_yX7_keep ok_yX7_keep rfl rfl sh_0 rfl hrest hdg hn k
theorem ok_yX4_put : okY yX4_put 2 := ⟨by decide +kernel, by decide +kernel, by decide +kernel⟩
theorem iv_X7_232 {dep' : Nat} {Qy : Option Value → Mem → Prop} {rest : List Value} {a0 a1 : Value} (hct : Ct G l dep' yX4_put cX4_put 3 (Option.none : Option Jvm.ClassFile.FieldType) [Value.ref (G.2.2.1 104), a0, a1] μ Qy) (hd : dep' < dep) (hdg : decode cc pc = .ok (.invokevirtual 232, 3)) (hn : pc + 3 = n) (hrest : (rest.map fun v => v.category).sum ≤ 8) (k : ∀ (r : Option Value) (μ' : Mem), Qy r μ' → V G l RX7 cc nL dep lg ret Q n lo (r.toList ++ rest) μ') : V G l RX7 cc nL dep lg ret Q pc lo (a1 :: a0 :: .ref (G.2.2.1 104) :: rest) μ := R_callV (ci := 4) (id := 104) (As := [a0, a1]) hct hd (by decide) rfl tM_RX7_232 tI_yX4_put tS_yX4_put tN_RX4 tC_yX4_put ok_yX4_put rfl rfl sh_104 rfl hrest hdg hn k
theorem iv_X4_22 {dep' : Nat} {Qy : Option Value → Mem → Prop} {rest : List Value} {a0 : Value} {id : Nat} (hct : Ct G l dep' yX5_copyFrom cX5_copyFrom 2 (Option.none : Option Jvm.ClassFile.FieldType) [Value.ref (G.2.2.1 id), a0] μ Qy) (hs : StB id) (hd : dep' < dep) (hdg : decode cc pc = .ok (.invokevirtual 22, 3)) (hn : pc + 3 = n) (hrest : (rest.map fun v => v.category).sum ≤ 8) (k : ∀ (r : Option Value) (μ' : Mem), Qy r μ' → V G l RX4 cc nL dep lg ret Q n lo (r.toList ++ rest) μ') : V G l RX4 cc nL dep lg ret Q pc lo (a0 :: .ref (G.2.2.1 id) :: rest) μ := R_callV (ci := 5) (id := id) (As := [a0]) hct hd (by decide) rfl tM_RX4_22 tI_yX5_copyFrom tS_yX5_copyFrom tN_RX5 tC_yX5_copyFrom ok_yX5_copyFrom rfl rfl hs.1 rfl hrest hdg hn k
theorem ok_yX7_again : okY yX7_again 1 := ⟨by decide +kernel, by decide +kernel, by decide +kernel⟩
theorem iv_L_124 {dep' : Nat} {Qy : Option Value → Mem → Prop} {rest : List Value} {a0 : Value} (hct : Ct G l dep' yX7_again cX7_again 2 (Option.some Jvm.ClassFile.FieldType.int) [Value.ref (G.2.2.1 0), a0] μ Qy) (hd : dep' < dep) (hdg : decode cc pc = .ok (.invokevirtual 124, 3)) (hn : pc + 3 = n) (hrest : (rest.map fun v => v.category).sum ≤ 8) (k : ∀ (r : Option Value) (μ' : Mem), Qy r μ' → V G l RL cc nL dep lg ret Q n lo (r.toList ++ rest) μ') : V G l RL cc nL dep lg ret Q pc lo (a0 :: .ref (G.2.2.1 0) :: rest) μ := R_callV (ci := 7) (id := 0) (As := [a0]) hct hd (by decide) rfl tM_RL_124 tI_yX7_again tS_yX7_again tN_RX7 tC_yX7_again ok_yX7_again rfl rfl sh_0 rfl hrest hdg hn k
theorem iv_X7_247 {dep' : Nat} {Qy : Option Value → Mem → Prop} {rest : List Value} {a0 : Value} {id : Nat} (hct : Ct G l dep' yX5_copyFrom cX5_copyFrom 2 (Option.none : Option Jvm.ClassFile.FieldType) [Value.ref (G.2.2.1 id), a0] μ Qy) (hs : StB id) (hd : dep' < dep) (hdg : decode cc pc = .ok (.invokevirtual 247, 3)) (hn : pc + 3 = n) (hrest : (rest.map fun v => v.category).sum ≤ 8) (k : ∀ (r : Option Value) (μ' : Mem), Qy r μ' → V G l RX7 cc nL dep lg ret Q n lo (r.toList ++ rest) μ') : V G l RX7 cc nL dep lg ret Q pc lo (a0 :: .ref (G.2.2.1 id) :: rest) μ := R_callV (ci := 5) (id := id) (As := [a0]) hct hd (by decide) rfl tM_RX7_247 tI_yX5_copyFrom tS_yX5_copyFrom tN_RX5 tC_yX5_copyFrom ok_yX5_copyFrom rfl rfl hs.1 rfl hrest hdg hn k
theorem ok_yX7_count : okY yX7_count 1 := ⟨by decide +kernel, by decide +kernel, by decide +kernel⟩
theorem iv_L_128 {dep' : Nat} {Qy : Option Value → Mem → Prop} {rest : List Value} {a0 : Value} (hct : Ct G l dep' yX7_count cX7_count 2 (Option.some Jvm.ClassFile.FieldType.int) [Value.ref (G.2.2.1 0), a0] μ Qy) (hd : dep' < dep) (hdg : decode cc pc = .ok (.invokevirtual 128, 3)) (hn : pc + 3 = n) (hrest : (rest.map fun v => v.category).sum ≤ 8) (k : ∀ (r : Option Value) (μ' : Mem), Qy r μ' → V G l RL cc nL dep lg ret Q n lo (r.toList ++ rest) μ') : V G l RL cc nL dep lg ret Q pc lo (a0 :: .ref (G.2.2.1 0) :: rest) μ := R_callV (ci := 7) (id := 0) (As := [a0]) hct hd (by decide) rfl tM_RL_128 tI_yX7_count tS_yX7_count tN_RX7 tC_yX7_count ok_yX7_count rfl rfl sh_0 rfl hrest hdg hn k
theorem ok_yX7_sum : okY yX7_sum 2 := ⟨by decide +kernel, by decide +kernel, by decide +kernel⟩
theorem iv_X7_250 {dep' : Nat} {Qy : Option Value → Mem → Prop} {rest : List Value} {a0 a1 : Value} (hct : Ct G l dep' yX7_sum cX7_sum 4 (Option.some Jvm.ClassFile.FieldType.int) [a0, a1] μ Qy) (hd : dep' < dep) (hdg : decode cc pc = .ok (.invokestatic 250, 3)) (hn : pc + 3 = n) (hrest : (rest.map fun v => v.category).sum ≤ 8) (k : ∀ (r : Option Value) (μ' : Mem), Qy r μ' → V G l RX7 cc nL dep lg ret Q n lo (r.toList ++ rest) μ') : V G l RX7 cc nL dep lg ret Q pc lo (a1 :: a0 :: rest) μ := R_callS hct hd (by decide) tM_RX7_250 tT_yX7_sum tN_RX7 tC_yX7_sum ok_yX7_sum rfl rfl hrest hdg hn k
theorem iv_X7_257 {dep' : Nat} {Qy : Option Value → Mem → Prop} {rest : List Value} {id : Nat} (hct : Ct G l dep' yX5_greatestHour cX5_greatestHour 3 (Option.some Jvm.ClassFile.FieldType.int) [Value.ref (G.2.2.1 id)] μ Qy) (hs : StB id) (hd : dep' < dep) (hdg : decode cc pc = .ok (.invokevirtual 257, 3)) (hn : pc + 3 = n) (hrest : (rest.map fun v => v.category).sum ≤ 8) (k : ∀ (r : Option Value) (μ' : Mem), Qy r μ' → V G l RX7 cc nL dep lg ret Q n lo (r.toList ++ rest) μ') : V G l RX7 cc nL dep lg ret Q pc lo (.ref (G.2.2.1 id) :: rest) μ := R_callV (ci := 5) (id := id) (As := []) hct hd (by decide) rfl tM_RX7_257 tI_yX5_greatestHour tS_yX5_greatestHour tN_RX5 tC_yX5_greatestHour ok_yX5_greatestHour rfl rfl hs.1 rfl hrest hdg hn k
theorem ok_yX8_write : okY yX8_write 1 := ⟨by decide +kernel, by decide +kernel, by decide +kernel⟩
theorem iv_L_17 {dep' : Nat} {Qy : Option Value → Mem → Prop} {rest : List Value} {a0 : Value} (hct : Ct G l dep' yX8_write cX8_write 2 (Option.some Jvm.ClassFile.FieldType.int) [Value.ref (G.2.2.1 125), a0] μ Qy) (hd : dep' < dep) (hdg : decode cc pc = .ok (.invokevirtual 17, 3)) (hn : pc + 3 = n) (hrest : (rest.map fun v => v.category).sum ≤ 8) (k : ∀ (r : Option Value) (μ' : Mem), Qy r μ' → V G l RL cc nL dep lg ret Q n lo (r.toList ++ rest) μ') : V G l RL cc nL dep lg ret Q pc lo (a0 :: .ref (G.2.2.1 125) :: rest) μ := R_callV (ci := 8) (id := 125) (As := [a0]) hct hd (by decide) rfl tM_RL_17 tI_yX8_write tS_yX8_write tN_RX8 tC_yX8_write ok_yX8_write rfl rfl sh_125 rfl hrest hdg hn k
theorem ok_yX8_in : okY yX8_in 3 := ⟨by decide +kernel, by decide +kernel, by decide +kernel⟩
theorem iv_X8_56 {dep' : Nat} {Qy : Option Value → Mem → Prop} {rest : List Value} {a0 a1 a2 : Value} (hct : Ct G l dep' yX8_in cX8_in 6 (Option.some Jvm.ClassFile.FieldType.boolean) [a0, a1, a2] μ Qy) (hd : dep' < dep) (hdg : decode cc pc = .ok (.invokestatic 56, 3)) (hn : pc + 3 = n) (hrest : (rest.map fun v => v.category).sum ≤ 8) (k : ∀ (r : Option Value) (μ' : Mem), Qy r μ' → V G l RX8 cc nL dep lg ret Q n lo (r.toList ++ rest) μ') : V G l RX8 cc nL dep lg ret Q pc lo (a2 :: a1 :: a0 :: rest) μ := R_callS hct hd (by decide) tM_RX8_56 tT_yX8_in tN_RX8 tC_yX8_in ok_yX8_in rfl rfl hrest hdg hn k
theorem ok_yX8_wipe : okY yX8_wipe 0 := ⟨by decide +kernel, by decide +kernel, by decide +kernel⟩
theorem iv_L_22 {dep' : Nat} {Qy : Option Value → Mem → Prop} {rest : List Value} (hct : Ct G l dep' yX8_wipe cX8_wipe 2 (Option.some Jvm.ClassFile.FieldType.int) [Value.ref (G.2.2.1 125)] μ Qy) (hd : dep' < dep) (hdg : decode cc pc = .ok (.invokevirtual 22, 3)) (hn : pc + 3 = n) (hrest : (rest.map fun v => v.category).sum ≤ 8) (k : ∀ (r : Option Value) (μ' : Mem), Qy r μ' → V G l RL cc nL dep lg ret Q n lo (r.toList ++ rest) μ') : V G l RL cc nL dep lg ret Q pc lo (.ref (G.2.2.1 125) :: rest) μ := R_callV (ci := 8) (id := 125) (As := []) hct hd (by decide) rfl tM_RL_22 tI_yX8_wipe tS_yX8_wipe tN_RX8 tC_yX8_wipe ok_yX8_wipe rfl rfl sh_125 rfl hrest hdg hn k
theorem ok_yX8_fault : okY yX8_fault 0 := ⟨by decide +kernel, by decide +kernel, by decide +kernel⟩
theorem iv_L_26 {dep' : Nat} {Qy : Option Value → Mem → Prop} {rest : List Value} (hct : Ct G l dep' yX8_fault cX8_fault 1 (Option.some Jvm.ClassFile.FieldType.int) [Value.ref (G.2.2.1 125)] μ Qy) (hd : dep' < dep) (hdg : decode cc pc = .ok (.invokevirtual 26, 3)) (hn : pc + 3 = n) (hrest : (rest.map fun v => v.category).sum ≤ 8) (k : ∀ (r : Option Value) (μ' : Mem), Qy r μ' → V G l RL cc nL dep lg ret Q n lo (r.toList ++ rest) μ') : V G l RL cc nL dep lg ret Q pc lo (.ref (G.2.2.1 125) :: rest) μ := R_callV (ci := 8) (id := 125) (As := []) hct hd (by decide) rfl tM_RL_26 tI_yX8_fault tS_yX8_fault tN_RX8 tC_yX8_fault ok_yX8_fault rfl rfl sh_125 rfl hrest hdg hn k
theorem ok_yX8_readText : okY yX8_readText 0 := ⟨by decide +kernel, by decide +kernel, by decide +kernel⟩
theorem iv_X8_79 {dep' : Nat} {Qy : Option Value → Mem → Prop} {rest : List Value} (hct : Ct G l dep' yX8_readText cX8_readText 1 (Option.some Jvm.ClassFile.FieldType.int) [Value.ref (G.2.2.1 125)] μ Qy) (hd : dep' < dep) (hdg : decode cc pc = .ok (.invokevirtual 79, 3)) (hn : pc + 3 = n) (hrest : (rest.map fun v => v.category).sum ≤ 8) (k : ∀ (r : Option Value) (μ' : Mem), Qy r μ' → V G l RX8 cc nL dep lg ret Q n lo (r.toList ++ rest) μ') : V G l RX8 cc nL dep lg ret Q pc lo (.ref (G.2.2.1 125) :: rest) μ := R_callV (ci := 8) (id := 125) (As := []) hct hd (by decide) rfl tM_RX8_79 tI_yX8_readText tS_yX8_readText tN_RX8 tC_yX8_readText ok_yX8_readText rfl rfl sh_125 rfl hrest hdg hn k
theorem ok_yX8_figure : okY yX8_figure 2 := ⟨by decide +kernel, by decide +kernel, by decide +kernel⟩
theorem iv_X8_75 {dep' : Nat} {Qy : Option Value → Mem → Prop} {rest : List Value} {a0 a1 : Value} (hct : Ct G l dep' yX8_figure cX8_figure 4 (Option.some Jvm.ClassFile.FieldType.int) [Value.ref (G.2.2.1 125), a0, a1] μ Qy) (hd : dep' < dep) (hdg : decode cc pc = .ok (.invokevirtual 75, 3)) (hn : pc + 3 = n) (hrest : (rest.map fun v => v.category).sum ≤ 8) (k : ∀ (r : Option Value) (μ' : Mem), Qy r μ' → V G l RX8 cc nL dep lg ret Q n lo (r.toList ++ rest) μ') : V G l RX8 cc nL dep lg ret Q pc lo (a1 :: a0 :: .ref (G.2.2.1 125) :: rest) μ := R_callV (ci := 8) (id := 125) (As := [a0, a1]) hct hd (by decide) rfl tM_RX8_75 tI_yX8_figure tS_yX8_figure tN_RX8 tC_yX8_figure ok_yX8_figure rfl rfl sh_125 rfl hrest hdg hn k
theorem ok_yX8_canal : okY yX8_canal 0 := ⟨by decide +kernel, by decide +kernel, by decide +kernel⟩
theorem iv_L_30 {dep' : Nat} {Qy : Option Value → Mem → Prop} {rest : List Value} (hct : Ct G l dep' yX8_canal cX8_canal 2 (Option.some Jvm.ClassFile.FieldType.int) [Value.ref (G.2.2.1 125)] μ Qy) (hd : dep' < dep) (hdg : decode cc pc = .ok (.invokevirtual 30, 3)) (hn : pc + 3 = n) (hrest : (rest.map fun v => v.category).sum ≤ 8) (k : ∀ (r : Option Value) (μ' : Mem), Qy r μ' → V G l RL cc nL dep lg ret Q n lo (r.toList ++ rest) μ') : V G l RL cc nL dep lg ret Q pc lo (.ref (G.2.2.1 125) :: rest) μ := R_callV (ci := 8) (id := 125) (As := []) hct hd (by decide) rfl tM_RL_30 tI_yX8_canal tS_yX8_canal tN_RX8 tC_yX8_canal ok_yX8_canal rfl rfl sh_125 rfl hrest hdg hn k
theorem ok_yX8_barge : okY yX8_barge 2 := ⟨by decide +kernel, by decide +kernel, by decide +kernel⟩
theorem iv_L_35 {dep' : Nat} {Qy : Option Value → Mem → Prop} {rest : List Value} {a0 a1 : Value} (hct : Ct G l dep' yX8_barge cX8_barge 3 (Option.some Jvm.ClassFile.FieldType.int) [Value.ref (G.2.2.1 125), a0, a1] μ Qy) (hd : dep' < dep) (hdg : decode cc pc = .ok (.invokevirtual 35, 3)) (hn : pc + 3 = n) (hrest : (rest.map fun v => v.category).sum ≤ 8) (k : ∀ (r : Option Value) (μ' : Mem), Qy r μ' → V G l RL cc nL dep lg ret Q n lo (r.toList ++ rest) μ') : V G l RL cc nL dep lg ret Q pc lo (a1 :: a0 :: .ref (G.2.2.1 125) :: rest) μ := R_callV (ci := 8) (id := 125) (As := [a0, a1]) hct hd (by decide) rfl tM_RL_35 tI_yX8_barge tS_yX8_barge tN_RX8 tC_yX8_barge ok_yX8_barge rfl rfl sh_125 rfl hrest hdg hn k
theorem ok_yX8_isBarge : okY yX8_isBarge 1 := ⟨by decide +kernel, by decide +kernel, by decide +kernel⟩
theorem iv_X8_89 {dep' : Nat} {Qy : Option Value → Mem → Prop} {rest : List Value} {a0 : Value} (hct : Ct G l dep' yX8_isBarge cX8_isBarge 2 (Option.some Jvm.ClassFile.FieldType.boolean) [Value.ref (G.2.2.1 125), a0] μ Qy) (hd : dep' < dep) (hdg : decode cc pc = .ok (.invokevirtual 89, 3)) (hn : pc + 3 = n) (hrest : (rest.map fun v => v.category).sum ≤ 8) (k : ∀ (r : Option Value) (μ' : Mem), Qy r μ' → V G l RX8 cc nL dep lg ret Q n lo (r.toList ++ rest) μ') : V G l RX8 cc nL dep lg ret Q pc lo (a0 :: .ref (G.2.2.1 125) :: rest) μ := R_callV (ci := 8) (id := 125) (As := [a0]) hct hd (by decide) rfl tM_RX8_89 tI_yX8_isBarge tS_yX8_isBarge tN_RX8 tC_yX8_isBarge ok_yX8_isBarge rfl rfl sh_125 rfl hrest hdg hn k
theorem ok_yX8_placeOf : okY yX8_placeOf 3 := ⟨by decide +kernel, by decide +kernel, by decide +kernel⟩
theorem iv_X8_93 {dep' : Nat} {Qy : Option Value → Mem → Prop} {rest : List Value} {a0 a1 a2 : Value} (hct : Ct G l dep' yX8_placeOf cX8_placeOf 6 (Option.some Jvm.ClassFile.FieldType.int) [Value.ref (G.2.2.1 125), a0, a1, a2] μ Qy) (hd : dep' < dep) (hdg : decode cc pc = .ok (.invokevirtual 93, 3)) (hn : pc + 3 = n) (hrest : (rest.map fun v => v.category).sum ≤ 8) (k : ∀ (r : Option Value) (μ' : Mem), Qy r μ' → V G l RX8 cc nL dep lg ret Q n lo (r.toList ++ rest) μ') : V G l RX8 cc nL dep lg ret Q pc lo (a2 :: a1 :: a0 :: .ref (G.2.2.1 125) :: rest) μ := R_callV (ci := 8) (id := 125) (As := [a0, a1, a2]) hct hd (by decide) rfl tM_RX8_93 tI_yX8_placeOf tS_yX8_placeOf tN_RX8 tC_yX8_placeOf ok_yX8_placeOf rfl rfl sh_125 rfl hrest hdg hn k
theorem ok_yX8_lock : okY yX8_lock 2 := ⟨by decide +kernel, by decide +kernel, by decide +kernel⟩
theorem iv_L_39 {dep' : Nat} {Qy : Option Value → Mem → Prop} {rest : List Value} {a0 a1 : Value} (hct : Ct G l dep' yX8_lock cX8_lock 3 (Option.some Jvm.ClassFile.FieldType.int) [Value.ref (G.2.2.1 125), a0, a1] μ Qy) (hd : dep' < dep) (hdg : decode cc pc = .ok (.invokevirtual 39, 3)) (hn : pc + 3 = n) (hrest : (rest.map fun v => v.category).sum ≤ 8) (k : ∀ (r : Option Value) (μ' : Mem), Qy r μ' → V G l RL cc nL dep lg ret Q n lo (r.toList ++ rest) μ') : V G l RL cc nL dep lg ret Q pc lo (a1 :: a0 :: .ref (G.2.2.1 125) :: rest) μ := R_callV (ci := 8) (id := 125) (As := [a0, a1]) hct hd (by decide) rfl tM_RL_39 tI_yX8_lock tS_yX8_lock tN_RX8 tC_yX8_lock ok_yX8_lock rfl rfl sh_125 rfl hrest hdg hn k
theorem ok_yX8_isLock : okY yX8_isLock 1 := ⟨by decide +kernel, by decide +kernel, by decide +kernel⟩
theorem iv_X8_97 {dep' : Nat} {Qy : Option Value → Mem → Prop} {rest : List Value} {a0 : Value} (hct : Ct G l dep' yX8_isLock cX8_isLock 2 (Option.some Jvm.ClassFile.FieldType.boolean) [Value.ref (G.2.2.1 125), a0] μ Qy) (hd : dep' < dep) (hdg : decode cc pc = .ok (.invokevirtual 97, 3)) (hn : pc + 3 = n) (hrest : (rest.map fun v => v.category).sum ≤ 8) (k : ∀ (r : Option Value) (μ' : Mem), Qy r μ' → V G l RX8 cc nL dep lg ret Q n lo (r.toList ++ rest) μ') : V G l RX8 cc nL dep lg ret Q pc lo (a0 :: .ref (G.2.2.1 125) :: rest) μ := R_callV (ci := 8) (id := 125) (As := [a0]) hct hd (by decide) rfl tM_RX8_97 tI_yX8_isLock tS_yX8_isLock tN_RX8 tC_yX8_isLock ok_yX8_isLock rfl rfl sh_125 rfl hrest hdg hn k
theorem ok_yX8_givenAt : okY yX8_givenAt 1 := ⟨by decide +kernel, by decide +kernel, by decide +kernel⟩
theorem iv_X8_100 {dep' : Nat} {Qy : Option Value → Mem → Prop} {rest : List Value} {a0 : Value} (hct : Ct G l dep' yX8_givenAt cX8_givenAt 4 (Option.some Jvm.ClassFile.FieldType.int) [Value.ref (G.2.2.1 125), a0] μ Qy) (hd : dep' < dep) (hdg : decode cc pc = .ok (.invokevirtual 100, 3)) (hn : pc + 3 = n) (hrest : (rest.map fun v => v.category).sum ≤ 8) (k : ∀ (r : Option Value) (μ' : Mem), Qy r μ' → V G l RX8 cc nL dep lg ret Q n lo (r.toList ++ rest) μ') : V G l RX8 cc nL dep lg ret Q pc lo (a0 :: .ref (G.2.2.1 125) :: rest) μ := R_callV (ci := 8) (id := 125) (As := [a0]) hct hd (by decide) rfl tM_RX8_100 tI_yX8_givenAt tS_yX8_givenAt tN_RX8 tC_yX8_givenAt ok_yX8_givenAt rfl rfl sh_125 rfl hrest hdg hn k
theorem ok_yX8_pass : okY yX8_pass 0 := ⟨by decide +kernel, by decide +kernel, by decide +kernel⟩
theorem iv_L_43 {dep' : Nat} {Qy : Option Value → Mem → Prop} {rest : List Value} (hct : Ct G l dep' yX8_pass cX8_pass 1 (Option.some Jvm.ClassFile.FieldType.int) [Value.ref (G.2.2.1 125)] μ Qy) (hd : dep' < dep) (hdg : decode cc pc = .ok (.invokevirtual 43, 3)) (hn : pc + 3 = n) (hrest : (rest.map fun v => v.category).sum ≤ 8) (k : ∀ (r : Option Value) (μ' : Mem), Qy r μ' → V G l RL cc nL dep lg ret Q n lo (r.toList ++ rest) μ') : V G l RL cc nL dep lg ret Q pc lo (.ref (G.2.2.1 125) :: rest) μ := R_callV (ci := 8) (id := 125) (As := []) hct hd (by decide) rfl tM_RL_43 tI_yX8_pass tS_yX8_pass tN_RX8 tC_yX8_pass ok_yX8_pass rfl rfl sh_125 rfl hrest hdg hn k
theorem ok_yX8_keepAct : okY yX8_keepAct 0 := ⟨by decide +kernel, by decide +kernel, by decide +kernel⟩
theorem iv_X8_114 {dep' : Nat} {Qy : Option Value → Mem → Prop} {rest : List Value} (hct : Ct G l dep' yX8_keepAct cX8_keepAct 2 (Option.none : Option Jvm.ClassFile.FieldType) [Value.ref (G.2.2.1 125)] μ Qy) (hd : dep' < dep) (hdg : decode cc pc = .ok (.invokevirtual 114, 3)) (hn : pc + 3 = n) (hrest : (rest.map fun v => v.category).sum ≤ 8) (k : ∀ (r : Option Value) (μ' : Mem), Qy r μ' → V G l RX8 cc nL dep lg ret Q n lo (r.toList ++ rest) μ') : V G l RX8 cc nL dep lg ret Q pc lo (.ref (G.2.2.1 125) :: rest) μ := R_callV (ci := 8) (id := 125) (As := []) hct hd (by decide) rfl tM_RX8_114 tI_yX8_keepAct tS_yX8_keepAct tN_RX8 tC_yX8_keepAct ok_yX8_keepAct rfl rfl sh_125 rfl hrest hdg hn k
theorem ok_yX8_passOn : okY yX8_passOn 2 := ⟨by decide +kernel, by decide +kernel, by decide +kernel⟩
theorem iv_X8_117 {dep' : Nat} {Qy : Option Value → Mem → Prop} {rest : List Value} {a0 a1 : Value} (hct : Ct G l dep' yX8_passOn cX8_passOn 11 (Option.none : Option Jvm.ClassFile.FieldType) [Value.ref (G.2.2.1 125), a0, a1] μ Qy) (hd : dep' < dep) (hdg : decode cc pc = .ok (.invokevirtual 117, 3)) (hn : pc + 3 = n) (hrest : (rest.map fun v => v.category).sum ≤ 8) (k : ∀ (r : Option Value) (μ' : Mem), Qy r μ' → V G l RX8 cc nL dep lg ret Q n lo (r.toList ++ rest) μ') : V G l RX8 cc nL dep lg ret Q pc lo (a1 :: a0 :: .ref (G.2.2.1 125) :: rest) μ := R_callV (ci := 8) (id := 125) (As := [a0, a1]) hct hd (by decide) rfl tM_RX8_117 tI_yX8_passOn tS_yX8_passOn tN_RX8 tC_yX8_passOn ok_yX8_passOn rfl rfl sh_125 rfl hrest hdg hn k
theorem ok_yX8_more : okY yX8_more 2 := ⟨by decide +kernel, by decide +kernel, by decide +kernel⟩
theorem iv_X8_104 {dep' : Nat} {Qy : Option Value → Mem → Prop} {rest : List Value} {a0 a1 : Value} (hct : Ct G l dep' yX8_more cX8_more 2 (Option.some Jvm.ClassFile.FieldType.int) [a0, a1] μ Qy) (hd : dep' < dep) (hdg : decode cc pc = .ok (.invokestatic 104, 3)) (hn : pc + 3 = n) (hrest : (rest.map fun v => v.category).sum ≤ 8) (k : ∀ (r : Option Value) (μ' : Mem), Qy r μ' → V G l RX8 cc nL dep lg ret Q n lo (r.toList ++ rest) μ') : V G l RX8 cc nL dep lg ret Q pc lo (a1 :: a0 :: rest) μ := R_callS hct hd (by decide) tM_RX8_104 tT_yX8_more tN_RX8 tC_yX8_more ok_yX8_more rfl rfl hrest hdg hn k
theorem ok_yX8_isChanged : okY yX8_isChanged 4 := ⟨by decide +kernel, by decide +kernel, by decide +kernel⟩
theorem iv_X8_107 {dep' : Nat} {Qy : Option Value → Mem → Prop} {rest : List Value} {a0 a1 a2 a3 : Value} (hct : Ct G l dep' yX8_isChanged cX8_isChanged 6 (Option.some Jvm.ClassFile.FieldType.boolean) [Value.ref (G.2.2.1 125), a0, a1, a2, a3] μ Qy) (hd : dep' < dep) (hdg : decode cc pc = .ok (.invokevirtual 107, 3)) (hn : pc + 3 = n) (hrest : (rest.map fun v => v.category).sum ≤ 8) (k : ∀ (r : Option Value) (μ' : Mem), Qy r μ' → V G l RX8 cc nL dep lg ret Q n lo (r.toList ++ rest) μ') : V G l RX8 cc nL dep lg ret Q pc lo (a3 :: a2 :: a1 :: a0 :: .ref (G.2.2.1 125) :: rest) μ := R_callV (ci := 8) (id := 125) (As := [a0, a1, a2, a3]) hct hd (by decide) rfl tM_RX8_107 tI_yX8_isChanged tS_yX8_isChanged tN_RX8 tC_yX8_isChanged ok_yX8_isChanged rfl rfl sh_125 rfl hrest hdg hn k
theorem ok_yX8_figuresOf : okY yX8_figuresOf 2 := ⟨by decide +kernel, by decide +kernel, by decide +kernel⟩
theorem iv_X8_121 {dep' : Nat} {Qy : Option Value → Mem → Prop} {rest : List Value} {a0 a1 : Value} (hct : Ct G l dep' yX8_figuresOf cX8_figuresOf 5 (Option.some Jvm.ClassFile.FieldType.int) [Value.ref (G.2.2.1 125), a0, a1] μ Qy) (hd : dep' < dep) (hdg : decode cc pc = .ok (.invokevirtual 121, 3)) (hn : pc + 3 = n) (hrest : (rest.map fun v => v.category).sum ≤ 8) (k : ∀ (r : Option Value) (μ' : Mem), Qy r μ' → V G l RX8 cc nL dep lg ret Q n lo (r.toList ++ rest) μ') : V G l RX8 cc nL dep lg ret Q pc lo (a1 :: a0 :: .ref (G.2.2.1 125) :: rest) μ := R_callV (ci := 8) (id := 125) (As := [a0, a1]) hct hd (by decide) rfl tM_RX8_121 tI_yX8_figuresOf tS_yX8_figuresOf tN_RX8 tC_yX8_figuresOf ok_yX8_figuresOf rfl rfl sh_125 rfl hrest hdg hn k
theorem ok_yX8_give : okY yX8_give 2 := ⟨by decide +kernel, by decide +kernel, by decide +kernel⟩
theorem iv_L_47 {dep' : Nat} {Qy : Option Value → Mem → Prop} {rest : List Value} {a0 a1 : Value} (hct : Ct G l dep' yX8_give cX8_give 3 (Option.some Jvm.ClassFile.FieldType.int) [Value.ref (G.2.2.1 125), a0, a1] μ Qy) (hd : dep' < dep) (hdg : decode cc pc = .ok (.invokevirtual 47, 3)) (hn : pc + 3 = n) (hrest : (rest.map fun v => v.category).sum ≤ 8) (k : ∀ (r : Option Value) (μ' : Mem), Qy r μ' → V G l RL cc nL dep lg ret Q n lo (r.toList ++ rest) μ') : V G l RL cc nL dep lg ret Q pc lo (a1 :: a0 :: .ref (G.2.2.1 125) :: rest) μ := R_callV (ci := 8) (id := 125) (As := [a0, a1]) hct hd (by decide) rfl tM_RL_47 tI_yX8_give tS_yX8_give tN_RX8 tC_yX8_give ok_yX8_give rfl rfl sh_125 rfl hrest hdg hn k
theorem ok_yX8_letBy : okY yX8_letBy 1 := ⟨by decide +kernel, by decide +kernel, by decide +kernel⟩
theorem iv_L_51 {dep' : Nat} {Qy : Option Value → Mem → Prop} {rest : List Value} {a0 : Value} (hct : Ct G l dep' yX8_letBy cX8_letBy 3 (Option.some Jvm.ClassFile.FieldType.int) [Value.ref (G.2.2.1 125), a0] μ Qy) (hd : dep' < dep) (hdg : decode cc pc = .ok (.invokevirtual 51, 3)) (hn : pc + 3 = n) (hrest : (rest.map fun v => v.category).sum ≤ 8) (k : ∀ (r : Option Value) (μ' : Mem), Qy r μ' → V G l RL cc nL dep lg ret Q n lo (r.toList ++ rest) μ') : V G l RL cc nL dep lg ret Q pc lo (a0 :: .ref (G.2.2.1 125) :: rest) μ := R_callV (ci := 8) (id := 125) (As := [a0]) hct hd (by decide) rfl tM_RL_51 tI_yX8_letBy tS_yX8_letBy tN_RX8 tC_yX8_letBy ok_yX8_letBy rfl rfl sh_125 rfl hrest hdg hn k
theorem ok_yX8_learn : okY yX8_learn 2 := ⟨by decide +kernel, by decide +kernel, by decide +kernel⟩
theorem iv_L_55 {dep' : Nat} {Qy : Option Value → Mem → Prop} {rest : List Value} {a0 a1 : Value} (hct : Ct G l dep' yX8_learn cX8_learn 4 (Option.some Jvm.ClassFile.FieldType.int) [Value.ref (G.2.2.1 125), a0, a1] μ Qy) (hd : dep' < dep) (hdg : decode cc pc = .ok (.invokevirtual 55, 3)) (hn : pc + 3 = n) (hrest : (rest.map fun v => v.category).sum ≤ 8) (k : ∀ (r : Option Value) (μ' : Mem), Qy r μ' → V G l RL cc nL dep lg ret Q n lo (r.toList ++ rest) μ') : V G l RL cc nL dep lg ret Q pc lo (a1 :: a0 :: .ref (G.2.2.1 125) :: rest) μ := R_callV (ci := 8) (id := 125) (As := [a0, a1]) hct hd (by decide) rfl tM_RL_55 tI_yX8_learn tS_yX8_learn tN_RX8 tC_yX8_learn ok_yX8_learn rfl rfl sh_125 rfl hrest hdg hn k
theorem ok_yX8_undo : okY yX8_undo 0 := ⟨by decide +kernel, by decide +kernel, by decide +kernel⟩
theorem iv_L_59 {dep' : Nat} {Qy : Option Value → Mem → Prop} {rest : List Value} (hct : Ct G l dep' yX8_undo cX8_undo 2 (Option.some Jvm.ClassFile.FieldType.int) [Value.ref (G.2.2.1 125)] μ Qy) (hd : dep' < dep) (hdg : decode cc pc = .ok (.invokevirtual 59, 3)) (hn : pc + 3 = n) (hrest : (rest.map fun v => v.category).sum ≤ 8) (k : ∀ (r : Option Value) (μ' : Mem), Qy r μ' → V G l RL cc nL dep lg ret Q n lo (r.toList ++ rest) μ') : V G l RL cc nL dep lg ret Q pc lo (.ref (G.2.2.1 125) :: rest) μ := R_callV (ci := 8) (id := 125) (As := []) hct hd (by decide) rfl tM_RL_59 tI_yX8_undo tS_yX8_undo tN_RX8 tC_yX8_undo ok_yX8_undo rfl rfl sh_125 rfl hrest hdg hn k
theorem ok_yX8_basin : okY yX8_basin 0 := ⟨by decide +kernel, by decide +kernel, by decide +kernel⟩
theorem iv_L_63 {dep' : Nat} {Qy : Option Value → Mem → Prop} {rest : List Value} (hct : Ct G l dep' yX8_basin cX8_basin 1 (Option.some Jvm.ClassFile.FieldType.int) [Value.ref (G.2.2.1 125)] μ Qy) (hd : dep' < dep) (hdg : decode cc pc = .ok (.invokevirtual 63, 3)) (hn : pc + 3 = n) (hrest : (rest.map fun v => v.category).sum ≤ 8) (k : ∀ (r : Option Value) (μ' : Mem), Qy r μ' → V G l RL cc nL dep lg ret Q n lo (r.toList ++ rest) μ') : V G l RL cc nL dep lg ret Q pc lo (.ref (G.2.2.1 125) :: rest) μ := R_callV (ci := 8) (id := 125) (As := []) hct hd (by decide) rfl tM_RL_63 tI_yX8_basin tS_yX8_basin tN_RX8 tC_yX8_basin ok_yX8_basin rfl rfl sh_125 rfl hrest hdg hn k
theorem ok_yX8_layBasin : okY yX8_layBasin 0 := ⟨by decide +kernel, by decide +kernel, by decide +kernel⟩
theorem iv_X8_133 {dep' : Nat} {Qy : Option Value → Mem → Prop} {rest : List Value} (hct : Ct G l dep' yX8_layBasin cX8_layBasin 1 (Option.none : Option Jvm.ClassFile.FieldType) [Value.ref (G.2.2.1 125)] μ Qy) (hd : dep' < dep) (hdg : decode cc pc = .ok (.invokevirtual 133, 3)) (hn : pc + 3 = n) (hrest : (rest.map fun v => v.category).sum ≤ 8) (k : ∀ (r : Option Value) (μ' : Mem), Qy r μ' → V G l RX8 cc nL dep lg ret Q n lo (r.toList ++ rest) μ') : V G l RX8 cc nL dep lg ret Q pc lo (.ref (G.2.2.1 125) :: rest) μ := R_callV (ci := 8) (id := 125) (As := []) hct hd (by decide) rfl tM_RX8_133 tI_yX8_layBasin tS_yX8_layBasin tN_RX8 tC_yX8_layBasin ok_yX8_layBasin rfl rfl sh_125 rfl hrest hdg hn k
theorem ok_yX8_layTrial : okY yX8_layTrial 0 := ⟨by decide +kernel, by decide +kernel, by decide +kernel⟩
theorem iv_X8_126 {dep' : Nat} {Qy : Option Value → Mem → Prop} {rest : List Value} (hct : Ct G l dep' yX8_layTrial cX8_layTrial 2 (Option.none : Option Jvm.ClassFile.FieldType) [Value.ref (G.2.2.1 125)] μ Qy) (hd : dep' < dep) (hdg : decode cc pc = .ok (.invokevirtual 126, 3)) (hn : pc + 3 = n) (hrest : (rest.map fun v => v.category).sum ≤ 8) (k : ∀ (r : Option Value) (μ' : Mem), Qy r μ' → V G l RX8 cc nL dep lg ret Q n lo (r.toList ++ rest) μ') : V G l RX8 cc nL dep lg ret Q pc lo (.ref (G.2.2.1 125) :: rest) μ := R_callV (ci := 8) (id := 125) (As := []) hct hd (by decide) rfl tM_RX8_126 tI_yX8_layTrial tS_yX8_layTrial tN_RX8 tC_yX8_layTrial ok_yX8_layTrial rfl rfl sh_125 rfl hrest hdg hn k
theorem ok_yX8_passAll : okY yX8_passAll 1 := ⟨by decide +kernel, by decide +kernel, by decide +kernel⟩
theorem iv_X8_129 {dep' : Nat} {Qy : Option Value → Mem → Prop} {rest : List Value} {a0 : Value} (hct : Ct G l dep' yX8_passAll cX8_passAll 2 (Option.none : Option Jvm.ClassFile.FieldType) [Value.ref (G.2.2.1 125), a0] μ Qy) (hd : dep' < dep) (hdg : decode cc pc = .ok (.invokevirtual 129, 3)) (hn : pc + 3 = n) (hrest : (rest.map fun v => v.category).sum ≤ 8) (k : ∀ (r : Option Value) (μ' : Mem), Qy r μ' → V G l RX8 cc nL dep lg ret Q n lo (r.toList ++ rest) μ') : V G l RX8 cc nL dep lg ret Q pc lo (a0 :: .ref (G.2.2.1 125) :: rest) μ := R_callV (ci := 8) (id := 125) (As := [a0]) hct hd (by decide) rfl tM_RX8_129 tI_yX8_passAll tS_yX8_passAll tN_RX8 tC_yX8_passAll ok_yX8_passAll rfl rfl sh_125 rfl hrest hdg hn k
theorem ok_yX8_hour : okY yX8_hour 1 := ⟨by decide +kernel, by decide +kernel, by decide +kernel⟩
theorem iv_L_67 {dep' : Nat} {Qy : Option Value → Mem → Prop} {rest : List Value} {a0 : Value} (hct : Ct G l dep' yX8_hour cX8_hour 2 (Option.some Jvm.ClassFile.FieldType.int) [Value.ref (G.2.2.1 125), a0] μ Qy) (hd : dep' < dep) (hdg : decode cc pc = .ok (.invokevirtual 67, 3)) (hn : pc + 3 = n) (hrest : (rest.map fun v => v.category).sum ≤ 8) (k : ∀ (r : Option Value) (μ' : Mem), Qy r μ' → V G l RL cc nL dep lg ret Q n lo (r.toList ++ rest) μ') : V G l RL cc nL dep lg ret Q pc lo (a0 :: .ref (G.2.2.1 125) :: rest) μ := R_callV (ci := 8) (id := 125) (As := [a0]) hct hd (by decide) rfl tM_RL_67 tI_yX8_hour tS_yX8_hour tN_RX8 tC_yX8_hour ok_yX8_hour rfl rfl sh_125 rfl hrest hdg hn k
theorem ok_yX8_gains : okY yX8_gains 1 := ⟨by decide +kernel, by decide +kernel, by decide +kernel⟩
theorem iv_L_71 {dep' : Nat} {Qy : Option Value → Mem → Prop} {rest : List Value} {a0 : Value} (hct : Ct G l dep' yX8_gains cX8_gains 5 (Option.some Jvm.ClassFile.FieldType.int) [Value.ref (G.2.2.1 125), a0] μ Qy) (hd : dep' < dep) (hdg : decode cc pc = .ok (.invokevirtual 71, 3)) (hn : pc + 3 = n) (hrest : (rest.map fun v => v.category).sum ≤ 8) (k : ∀ (r : Option Value) (μ' : Mem), Qy r μ' → V G l RL cc nL dep lg ret Q n lo (r.toList ++ rest) μ') : V G l RL cc nL dep lg ret Q pc lo (a0 :: .ref (G.2.2.1 125) :: rest) μ := R_callV (ci := 8) (id := 125) (As := [a0]) hct hd (by decide) rfl tM_RL_71 tI_yX8_gains tS_yX8_gains tN_RX8 tC_yX8_gains ok_yX8_gains rfl rfl sh_125 rfl hrest hdg hn k
theorem ok_yX8_mates : okY yX8_mates 1 := ⟨by decide +kernel, by decide +kernel, by decide +kernel⟩
theorem iv_L_75 {dep' : Nat} {Qy : Option Value → Mem → Prop} {rest : List Value} {a0 : Value} (hct : Ct G l dep' yX8_mates cX8_mates 2 (Option.some Jvm.ClassFile.FieldType.int) [Value.ref (G.2.2.1 125), a0] μ Qy) (hd : dep' < dep) (hdg : decode cc pc = .ok (.invokevirtual 75, 3)) (hn : pc + 3 = n) (hrest : (rest.map fun v => v.category).sum ≤ 8) (k : ∀ (r : Option Value) (μ' : Mem), Qy r μ' → V G l RL cc nL dep lg ret Q n lo (r.toList ++ rest) μ') : V G l RL cc nL dep lg ret Q pc lo (a0 :: .ref (G.2.2.1 125) :: rest) μ := R_callV (ci := 8) (id := 125) (As := [a0]) hct hd (by decide) rfl tM_RL_75 tI_yX8_mates tS_yX8_mates tN_RX8 tC_yX8_mates ok_yX8_mates rfl rfl sh_125 rfl hrest hdg hn k
theorem ok_yX8_first : okY yX8_first 2 := ⟨by decide +kernel, by decide +kernel, by decide +kernel⟩
theorem iv_L_79 {dep' : Nat} {Qy : Option Value → Mem → Prop} {rest : List Value} {a0 a1 : Value} (hct : Ct G l dep' yX8_first cX8_first 5 (Option.some Jvm.ClassFile.FieldType.int) [Value.ref (G.2.2.1 125), a0, a1] μ Qy) (hd : dep' < dep) (hdg : decode cc pc = .ok (.invokevirtual 79, 3)) (hn : pc + 3 = n) (hrest : (rest.map fun v => v.category).sum ≤ 8) (k : ∀ (r : Option Value) (μ' : Mem), Qy r μ' → V G l RL cc nL dep lg ret Q n lo (r.toList ++ rest) μ') : V G l RL cc nL dep lg ret Q pc lo (a1 :: a0 :: .ref (G.2.2.1 125) :: rest) μ := R_callV (ci := 8) (id := 125) (As := [a0, a1]) hct hd (by decide) rfl tM_RL_79 tI_yX8_first tS_yX8_first tN_RX8 tC_yX8_first ok_yX8_first rfl rfl sh_125 rfl hrest hdg hn k
theorem ok_yX8_factorial : okY yX8_factorial 1 := ⟨by decide +kernel, by decide +kernel, by decide +kernel⟩
theorem iv_X8_136 {dep' : Nat} {Qy : Option Value → Mem → Prop} {rest : List Value} {a0 : Value} (hct : Ct G l dep' yX8_factorial cX8_factorial 3 (Option.some Jvm.ClassFile.FieldType.int) [a0] μ Qy) (hd : dep' < dep) (hdg : decode cc pc = .ok (.invokestatic 136, 3)) (hn : pc + 3 = n) (hrest : (rest.map fun v => v.category).sum ≤ 8) (k : ∀ (r : Option Value) (μ' : Mem), Qy r μ' → V G l RX8 cc nL dep lg ret Q n lo (r.toList ++ rest) μ') : V G l RX8 cc nL dep lg ret Q pc lo (a0 :: rest) μ := R_callS hct hd (by decide) tM_RX8_136 tT_yX8_factorial tN_RX8 tC_yX8_factorial ok_yX8_factorial rfl rfl hrest hdg hn k
theorem ok_yX8_layOrder : okY yX8_layOrder 1 := ⟨by decide +kernel, by decide +kernel, by decide +kernel⟩
theorem iv_X8_143 {dep' : Nat} {Qy : Option Value → Mem → Prop} {rest : List Value} {a0 : Value} (hct : Ct G l dep' yX8_layOrder cX8_layOrder 9 (Option.none : Option Jvm.ClassFile.FieldType) [Value.ref (G.2.2.1 125), a0] μ Qy) (hd : dep' < dep) (hdg : decode cc pc = .ok (.invokevirtual 143, 3)) (hn : pc + 3 = n) (hrest : (rest.map fun v => v.category).sum ≤ 8) (k : ∀ (r : Option Value) (μ' : Mem), Qy r μ' → V G l RX8 cc nL dep lg ret Q n lo (r.toList ++ rest) μ') : V G l RX8 cc nL dep lg ret Q pc lo (a0 :: .ref (G.2.2.1 125) :: rest) μ := R_callV (ci := 8) (id := 125) (As := [a0]) hct hd (by decide) rfl tM_RX8_143 tI_yX8_layOrder tS_yX8_layOrder tN_RX8 tC_yX8_layOrder ok_yX8_layOrder rfl rfl sh_125 rfl hrest hdg hn k
theorem ok_yX8_has : okY yX8_has 2 := ⟨by decide +kernel, by decide +kernel, by decide +kernel⟩
theorem iv_X8_139 {dep' : Nat} {Qy : Option Value → Mem → Prop} {rest : List Value} {a0 a1 : Value} (hct : Ct G l dep' yX8_has cX8_has 2 (Option.some Jvm.ClassFile.FieldType.boolean) [a0, a1] μ Qy) (hd : dep' < dep) (hdg : decode cc pc = .ok (.invokestatic 139, 3)) (hn : pc + 3 = n) (hrest : (rest.map fun v => v.category).sum ≤ 8) (k : ∀ (r : Option Value) (μ' : Mem), Qy r μ' → V G l RX8 cc nL dep lg ret Q n lo (r.toList ++ rest) μ') : V G l RX8 cc nL dep lg ret Q pc lo (a1 :: a0 :: rest) μ := R_callS hct hd (by decide) tM_RX8_139 tT_yX8_has tN_RX8 tC_yX8_has ok_yX8_has rfl rfl hrest hdg hn k
theorem ok_yX8_isSo : okY yX8_isSo 2 := ⟨by decide +kernel, by decide +kernel, by decide +kernel⟩
theorem iv_X8_146 {dep' : Nat} {Qy : Option Value → Mem → Prop} {rest : List Value} {a0 a1 : Value} (hct : Ct G l dep' yX8_isSo cX8_isSo 3 (Option.some Jvm.ClassFile.FieldType.boolean) [Value.ref (G.2.2.1 125), a0, a1] μ Qy) (hd : dep' < dep) (hdg : decode cc pc = .ok (.invokevirtual 146, 3)) (hn : pc + 3 = n) (hrest : (rest.map fun v => v.category).sum ≤ 8) (k : ∀ (r : Option Value) (μ' : Mem), Qy r μ' → V G l RX8 cc nL dep lg ret Q n lo (r.toList ++ rest) μ') : V G l RX8 cc nL dep lg ret Q pc lo (a1 :: a0 :: .ref (G.2.2.1 125) :: rest) μ := R_callV (ci := 8) (id := 125) (As := [a0, a1]) hct hd (by decide) rfl tM_RX8_146 tI_yX8_isSo tS_yX8_isSo tN_RX8 tC_yX8_isSo ok_yX8_isSo rfl rfl sh_125 rfl hrest hdg hn k
theorem ok_yX8_tea : okY yX8_tea 3 := ⟨by decide +kernel, by decide +kernel, by decide +kernel⟩
theorem iv_L_84 {dep' : Nat} {Qy : Option Value → Mem → Prop} {rest : List Value} {a0 a1 a2 : Value} (hct : Ct G l dep' yX8_tea cX8_tea 5 (Option.some Jvm.ClassFile.FieldType.int) [Value.ref (G.2.2.1 125), a0, a1, a2] μ Qy) (hd : dep' < dep) (hdg : decode cc pc = .ok (.invokevirtual 84, 3)) (hn : pc + 3 = n) (hrest : (rest.map fun v => v.category).sum ≤ 8) (k : ∀ (r : Option Value) (μ' : Mem), Qy r μ' → V G l RL cc nL dep lg ret Q n lo (r.toList ++ rest) μ') : V G l RL cc nL dep lg ret Q pc lo (a2 :: a1 :: a0 :: .ref (G.2.2.1 125) :: rest) μ := R_callV (ci := 8) (id := 125) (As := [a0, a1, a2]) hct hd (by decide) rfl tM_RL_84 tI_yX8_tea tS_yX8_tea tN_RX8 tC_yX8_tea ok_yX8_tea rfl rfl sh_125 rfl hrest hdg hn k
theorem ok_yX8_giveTrial : okY yX8_giveTrial 2 := ⟨by decide +kernel, by decide +kernel, by decide +kernel⟩
theorem iv_X8_149 {dep' : Nat} {Qy : Option Value → Mem → Prop} {rest : List Value} {a0 a1 : Value} (hct : Ct G l dep' yX8_giveTrial cX8_giveTrial 4 (Option.some Jvm.ClassFile.FieldType.boolean) [Value.ref (G.2.2.1 125), a0, a1] μ Qy) (hd : dep' < dep) (hdg : decode cc pc = .ok (.invokevirtual 149, 3)) (hn : pc + 3 = n) (hrest : (rest.map fun v => v.category).sum ≤ 8) (k : ∀ (r : Option Value) (μ' : Mem), Qy r μ' → V G l RX8 cc nL dep lg ret Q n lo (r.toList ++ rest) μ') : V G l RX8 cc nL dep lg ret Q pc lo (a1 :: a0 :: .ref (G.2.2.1 125) :: rest) μ := R_callV (ci := 8) (id := 125) (As := [a0, a1]) hct hd (by decide) rfl tM_RX8_149 tI_yX8_giveTrial tS_yX8_giveTrial tN_RX8 tC_yX8_giveTrial ok_yX8_giveTrial rfl rfl sh_125 rfl hrest hdg hn k
theorem ok_yX8_judge : okY yX8_judge 2 := ⟨by decide +kernel, by decide +kernel, by decide +kernel⟩
theorem iv_L_88 {dep' : Nat} {Qy : Option Value → Mem → Prop} {rest : List Value} {a0 a1 : Value} (hct : Ct G l dep' yX8_judge cX8_judge 5 (Option.some Jvm.ClassFile.FieldType.int) [Value.ref (G.2.2.1 125), a0, a1] μ Qy) (hd : dep' < dep) (hdg : decode cc pc = .ok (.invokevirtual 88, 3)) (hn : pc + 3 = n) (hrest : (rest.map fun v => v.category).sum ≤ 8) (k : ∀ (r : Option Value) (μ' : Mem), Qy r μ' → V G l RL cc nL dep lg ret Q n lo (r.toList ++ rest) μ') : V G l RL cc nL dep lg ret Q pc lo (a1 :: a0 :: .ref (G.2.2.1 125) :: rest) μ := R_callV (ci := 8) (id := 125) (As := [a0, a1]) hct hd (by decide) rfl tM_RL_88 tI_yX8_judge tS_yX8_judge tN_RX8 tC_yX8_judge ok_yX8_judge rfl rfl sh_125 rfl hrest hdg hn k
theorem ok_yX8_tenTo : okY yX8_tenTo 1 := ⟨by decide +kernel, by decide +kernel, by decide +kernel⟩
theorem iv_X8_154 {dep' : Nat} {Qy : Option Value → Mem → Prop} {rest : List Value} {a0 : Value} (hct : Ct G l dep' yX8_tenTo cX8_tenTo 3 (Option.some Jvm.ClassFile.FieldType.int) [a0] μ Qy) (hd : dep' < dep) (hdg : decode cc pc = .ok (.invokestatic 154, 3)) (hn : pc + 3 = n) (hrest : (rest.map fun v => v.category).sum ≤ 8) (k : ∀ (r : Option Value) (μ' : Mem), Qy r μ' → V G l RX8 cc nL dep lg ret Q n lo (r.toList ++ rest) μ') : V G l RX8 cc nL dep lg ret Q pc lo (a0 :: rest) μ := R_callS hct hd (by decide) tM_RX8_154 tT_yX8_tenTo tN_RX8 tC_yX8_tenTo ok_yX8_tenTo rfl rfl hrest hdg hn k
theorem ok_yX8_share : okY yX8_share 2 := ⟨by decide +kernel, by decide +kernel, by decide +kernel⟩
theorem iv_L_93 {dep' : Nat} {Qy : Option Value → Mem → Prop} {rest : List Value} {a0 a1 : Value} (hct : Ct G l dep' yX8_share cX8_share 6 (Option.some Jvm.ClassFile.FieldType.int) [Value.ref (G.2.2.1 125), a0, a1] μ Qy) (hd : dep' < dep) (hdg : decode cc pc = .ok (.invokevirtual 93, 3)) (hn : pc + 3 = n) (hrest : (rest.map fun v => v.category).sum ≤ 8) (k : ∀ (r : Option Value) (μ' : Mem), Qy r μ' → V G l RL cc nL dep lg ret Q n lo (r.toList ++ rest) μ') : V G l RL cc nL dep lg ret Q pc lo (a1 :: a0 :: .ref (G.2.2.1 125) :: rest) μ := R_callV (ci := 8) (id := 125) (As := [a0, a1]) hct hd (by decide) rfl tM_RL_93 tI_yX8_share tS_yX8_share tN_RX8 tC_yX8_share ok_yX8_share rfl rfl sh_125 rfl hrest hdg hn k
theorem ok_yX8_hoursBy : okY yX8_hoursBy 1 := ⟨by decide +kernel, by decide +kernel, by decide +kernel⟩
theorem iv_X8_160 {dep' : Nat} {Qy : Option Value → Mem → Prop} {rest : List Value} {a0 : Value} (hct : Ct G l dep' yX8_hoursBy cX8_hoursBy 4 (Option.some Jvm.ClassFile.FieldType.int) [Value.ref (G.2.2.1 125), a0] μ Qy) (hd : dep' < dep) (hdg : decode cc pc = .ok (.invokevirtual 160, 3)) (hn : pc + 3 = n) (hrest : (rest.map fun v => v.category).sum ≤ 8) (k : ∀ (r : Option Value) (μ' : Mem), Qy r μ' → V G l RX8 cc nL dep lg ret Q n lo (r.toList ++ rest) μ') : V G l RX8 cc nL dep lg ret Q pc lo (a0 :: .ref (G.2.2.1 125) :: rest) μ := R_callV (ci := 8) (id := 125) (As := [a0]) hct hd (by decide) rfl tM_RX8_160 tI_yX8_hoursBy tS_yX8_hoursBy tN_RX8 tC_yX8_hoursBy ok_yX8_hoursBy rfl rfl sh_125 rfl hrest hdg hn k
theorem ok_yX8_greatest : okY yX8_greatest 2 := ⟨by decide +kernel, by decide +kernel, by decide +kernel⟩
theorem iv_X8_157 {dep' : Nat} {Qy : Option Value → Mem → Prop} {rest : List Value} {a0 a1 : Value} (hct : Ct G l dep' yX8_greatest cX8_greatest 5 (Option.some Jvm.ClassFile.FieldType.int) [Value.ref (G.2.2.1 125), a0, a1] μ Qy) (hd : dep' < dep) (hdg : decode cc pc = .ok (.invokevirtual 157, 3)) (hn : pc + 3 = n) (hrest : (rest.map fun v => v.category).sum ≤ 8) (k : ∀ (r : Option Value) (μ' : Mem), Qy r μ' → V G l RX8 cc nL dep lg ret Q n lo (r.toList ++ rest) μ') : V G l RX8 cc nL dep lg ret Q pc lo (a1 :: a0 :: .ref (G.2.2.1 125) :: rest) μ := R_callV (ci := 8) (id := 125) (As := [a0, a1]) hct hd (by decide) rfl tM_RX8_157 tI_yX8_greatest tS_yX8_greatest tN_RX8 tC_yX8_greatest ok_yX8_greatest rfl rfl sh_125 rfl hrest hdg hn k
theorem ok_yX8_ones : okY yX8_ones 1 := ⟨by decide +kernel, by decide +kernel, by decide +kernel⟩
theorem iv_X8_163 {dep' : Nat} {Qy : Option Value → Mem → Prop} {rest : List Value} {a0 : Value} (hct : Ct G l dep' yX8_ones cX8_ones 3 (Option.some Jvm.ClassFile.FieldType.int) [a0] μ Qy) (hd : dep' < dep) (hdg : decode cc pc = .ok (.invokestatic 163, 3)) (hn : pc + 3 = n) (hrest : (rest.map fun v => v.category).sum ≤ 8) (k : ∀ (r : Option Value) (μ' : Mem), Qy r μ' → V G l RX8 cc nL dep lg ret Q n lo (r.toList ++ rest) μ') : V G l RX8 cc nL dep lg ret Q pc lo (a0 :: rest) μ := R_callS hct hd (by decide) tM_RX8_163 tT_yX8_ones tN_RX8 tC_yX8_ones ok_yX8_ones rfl rfl hrest hdg hn k
theorem ok_yX8_common : okY yX8_common 2 := ⟨by decide +kernel, by decide +kernel, by decide +kernel⟩
theorem iv_X8_166 {dep' : Nat} {Qy : Option Value → Mem → Prop} {rest : List Value} {a0 a1 : Value} (hct : Ct G l dep' yX8_common cX8_common 5 (Option.some Jvm.ClassFile.FieldType.int) [a0, a1] μ Qy) (hd : dep' < dep) (hdg : decode cc pc = .ok (.invokestatic 166, 3)) (hn : pc + 3 = n) (hrest : (rest.map fun v => v.category).sum ≤ 8) (k : ∀ (r : Option Value) (μ' : Mem), Qy r μ' → V G l RX8 cc nL dep lg ret Q n lo (r.toList ++ rest) μ') : V G l RX8 cc nL dep lg ret Q pc lo (a1 :: a0 :: rest) μ := R_callS hct hd (by decide) tM_RX8_166 tT_yX8_common tN_RX8 tC_yX8_common ok_yX8_common rfl rfl hrest hdg hn k
theorem ok_yX8_gave : okY yX8_gave 3 := ⟨by decide +kernel, by decide +kernel, by decide +kernel⟩
theorem iv_L_98 {dep' : Nat} {Qy : Option Value → Mem → Prop} {rest : List Value} {a0 a1 a2 : Value} (hct : Ct G l dep' yX8_gave cX8_gave 8 (Option.some Jvm.ClassFile.FieldType.int) [Value.ref (G.2.2.1 125), a0, a1, a2] μ Qy) (hd : dep' < dep) (hdg : decode cc pc = .ok (.invokevirtual 98, 3)) (hn : pc + 3 = n) (hrest : (rest.map fun v => v.category).sum ≤ 8) (k : ∀ (r : Option Value) (μ' : Mem), Qy r μ' → V G l RL cc nL dep lg ret Q n lo (r.toList ++ rest) μ') : V G l RL cc nL dep lg ret Q pc lo (a2 :: a1 :: a0 :: .ref (G.2.2.1 125) :: rest) μ := R_callV (ci := 8) (id := 125) (As := [a0, a1, a2]) hct hd (by decide) rfl tM_RL_98 tI_yX8_gave tS_yX8_gave tN_RX8 tC_yX8_gave ok_yX8_gave rfl rfl sh_125 rfl hrest hdg hn k
theorem ok_yX8_isOrder : okY yX8_isOrder 1 := ⟨by decide +kernel, by decide +kernel, by decide +kernel⟩
theorem iv_X8_169 {dep' : Nat} {Qy : Option Value → Mem → Prop} {rest : List Value} {a0 : Value} (hct : Ct G l dep' yX8_isOrder cX8_isOrder 6 (Option.some Jvm.ClassFile.FieldType.boolean) [Value.ref (G.2.2.1 125), a0] μ Qy) (hd : dep' < dep) (hdg : decode cc pc = .ok (.invokevirtual 169, 3)) (hn : pc + 3 = n) (hrest : (rest.map fun v => v.category).sum ≤ 8) (k : ∀ (r : Option Value) (μ' : Mem), Qy r μ' → V G l RX8 cc nL dep lg ret Q n lo (r.toList ++ rest) μ') : V G l RX8 cc nL dep lg ret Q pc lo (a0 :: .ref (G.2.2.1 125) :: rest) μ := R_callV (ci := 8) (id := 125) (As := [a0]) hct hd (by decide) rfl tM_RX8_169 tI_yX8_isOrder tS_yX8_isOrder tN_RX8 tC_yX8_isOrder ok_yX8_isOrder rfl rfl sh_125 rfl hrest hdg hn k
theorem ok_yX8_comesSo : okY yX8_comesSo 3 := ⟨by decide +kernel, by decide +kernel, by decide +kernel⟩
theorem iv_X8_174 {dep' : Nat} {Qy : Option Value → Mem → Prop} {rest : List Value} {a0 a1 a2 : Value} (hct : Ct G l dep' yX8_comesSo cX8_comesSo 5 (Option.some Jvm.ClassFile.FieldType.boolean) [Value.ref (G.2.2.1 125), a0, a1, a2] μ Qy) (hd : dep' < dep) (hdg : decode cc pc = .ok (.invokevirtual 174, 3)) (hn : pc + 3 = n) (hrest : (rest.map fun v => v.category).sum ≤ 8) (k : ∀ (r : Option Value) (μ' : Mem), Qy r μ' → V G l RX8 cc nL dep lg ret Q n lo (r.toList ++ rest) μ') : V G l RX8 cc nL dep lg ret Q pc lo (a2 :: a1 :: a0 :: .ref (G.2.2.1 125) :: rest) μ := R_callV (ci := 8) (id := 125) (As := [a0, a1, a2]) hct hd (by decide) rfl tM_RX8_174 tI_yX8_comesSo tS_yX8_comesSo tN_RX8 tC_yX8_comesSo ok_yX8_comesSo rfl rfl sh_125 rfl hrest hdg hn k
theorem ok_yX8_rests : okY yX8_rests 4 := ⟨by decide +kernel, by decide +kernel, by decide +kernel⟩
theorem iv_L_103 {dep' : Nat} {Qy : Option Value → Mem → Prop} {rest : List Value} {a0 a1 a2 a3 : Value} (hct : Ct G l dep' yX8_rests cX8_rests 8 (Option.some Jvm.ClassFile.FieldType.int) [Value.ref (G.2.2.1 125), a0, a1, a2, a3] μ Qy) (hd : dep' < dep) (hdg : decode cc pc = .ok (.invokevirtual 103, 3)) (hn : pc + 3 = n) (hrest : (rest.map fun v => v.category).sum ≤ 8) (k : ∀ (r : Option Value) (μ' : Mem), Qy r μ' → V G l RL cc nL dep lg ret Q n lo (r.toList ++ rest) μ') : V G l RL cc nL dep lg ret Q pc lo (a3 :: a2 :: a1 :: a0 :: .ref (G.2.2.1 125) :: rest) μ := R_callV (ci := 8) (id := 125) (As := [a0, a1, a2, a3]) hct hd (by decide) rfl tM_RL_103 tI_yX8_rests tS_yX8_rests tN_RX8 tC_yX8_rests ok_yX8_rests rfl rfl sh_125 rfl hrest hdg hn k
theorem ok_yX8_layLosses : okY yX8_layLosses 3 := ⟨by decide +kernel, by decide +kernel, by decide +kernel⟩
theorem iv_X8_178 {dep' : Nat} {Qy : Option Value → Mem → Prop} {rest : List Value} {a0 a1 a2 : Value} (hct : Ct G l dep' yX8_layLosses cX8_layLosses 5 (Option.none : Option Jvm.ClassFile.FieldType) [Value.ref (G.2.2.1 125), a0, a1, a2] μ Qy) (hd : dep' < dep) (hdg : decode cc pc = .ok (.invokevirtual 178, 3)) (hn : pc + 3 = n) (hrest : (rest.map fun v => v.category).sum ≤ 8) (k : ∀ (r : Option Value) (μ' : Mem), Qy r μ' → V G l RX8 cc nL dep lg ret Q n lo (r.toList ++ rest) μ') : V G l RX8 cc nL dep lg ret Q pc lo (a2 :: a1 :: a0 :: .ref (G.2.2.1 125) :: rest) μ := R_callV (ci := 8) (id := 125) (As := [a0, a1, a2]) hct hd (by decide) rfl tM_RX8_178 tI_yX8_layLosses tS_yX8_layLosses tN_RX8 tC_yX8_layLosses ok_yX8_layLosses rfl rfl sh_125 rfl hrest hdg hn k
theorem ok_yX8_isRest : okY yX8_isRest 1 := ⟨by decide +kernel, by decide +kernel, by decide +kernel⟩
theorem iv_X8_182 {dep' : Nat} {Qy : Option Value → Mem → Prop} {rest : List Value} {a0 : Value} (hct : Ct G l dep' yX8_isRest cX8_isRest 4 (Option.some Jvm.ClassFile.FieldType.boolean) [Value.ref (G.2.2.1 125), a0] μ Qy) (hd : dep' < dep) (hdg : decode cc pc = .ok (.invokevirtual 182, 3)) (hn : pc + 3 = n) (hrest : (rest.map fun v => v.category).sum ≤ 8) (k : ∀ (r : Option Value) (μ' : Mem), Qy r μ' → V G l RX8 cc nL dep lg ret Q n lo (r.toList ++ rest) μ') : V G l RX8 cc nL dep lg ret Q pc lo (a0 :: .ref (G.2.2.1 125) :: rest) μ := R_callV (ci := 8) (id := 125) (As := [a0]) hct hd (by decide) rfl tM_RX8_182 tI_yX8_isRest tS_yX8_isRest tN_RX8 tC_yX8_isRest ok_yX8_isRest rfl rfl sh_125 rfl hrest hdg hn k
theorem ok_yX8_asleep : okY yX8_asleep 4 := ⟨by decide +kernel, by decide +kernel, by decide +kernel⟩
theorem iv_L_108 {dep' : Nat} {Qy : Option Value → Mem → Prop} {rest : List Value} {a0 a1 a2 a3 : Value} (hct : Ct G l dep' yX8_asleep cX8_asleep 12 (Option.some Jvm.ClassFile.FieldType.int) [Value.ref (G.2.2.1 125), a0, a1, a2, a3] μ Qy) (hd : dep' < dep) (hdg : decode cc pc = .ok (.invokevirtual 108, 3)) (hn : pc + 3 = n) (hrest : (rest.map fun v => v.category).sum ≤ 8) (k : ∀ (r : Option Value) (μ' : Mem), Qy r μ' → V G l RL cc nL dep lg ret Q n lo (r.toList ++ rest) μ') : V G l RL cc nL dep lg ret Q pc lo (a3 :: a2 :: a1 :: a0 :: .ref (G.2.2.1 125) :: rest) μ := R_callV (ci := 8) (id := 125) (As := [a0, a1, a2, a3]) hct hd (by decide) rfl tM_RL_108 tI_yX8_asleep tS_yX8_asleep tN_RX8 tC_yX8_asleep ok_yX8_asleep rfl rfl sh_125 rfl hrest hdg hn k
theorem ok_yX8_seed : okY yX8_seed 1 := ⟨by decide +kernel, by decide +kernel, by decide +kernel⟩
theorem iv_L_115 {dep' : Nat} {Qy : Option Value → Mem → Prop} {rest : List Value} {a0 : Value} (hct : Ct G l dep' yX8_seed cX8_seed 5 (Option.some Jvm.ClassFile.FieldType.long) [Value.ref (G.2.2.1 125), a0] μ Qy) (hd : dep' < dep) (hdg : decode cc pc = .ok (.invokevirtual 115, 3)) (hn : pc + 3 = n) (hrest : (rest.map fun v => v.category).sum ≤ 8) (k : ∀ (r : Option Value) (μ' : Mem), Qy r μ' → V G l RL cc nL dep lg ret Q n lo (r.toList ++ rest) μ') : V G l RL cc nL dep lg ret Q pc lo (a0 :: .ref (G.2.2.1 125) :: rest) μ := R_callV (ci := 8) (id := 125) (As := [a0]) hct hd (by decide) rfl tM_RL_115 tI_yX8_seed tS_yX8_seed tN_RX8 tC_yX8_seed ok_yX8_seed rfl rfl sh_125 rfl hrest hdg hn k
theorem ok_yX8_days : okY yX8_days 2 := ⟨by decide +kernel, by decide +kernel, by decide +kernel⟩
theorem iv_L_119 {dep' : Nat} {Qy : Option Value → Mem → Prop} {rest : List Value} {a0 a1 : Value} (hct : Ct G l dep' yX8_days cX8_days 7 (Option.some Jvm.ClassFile.FieldType.int) [Value.ref (G.2.2.1 125), a0, a1] μ Qy) (hd : dep' < dep) (hdg : decode cc pc = .ok (.invokevirtual 119, 3)) (hn : pc + 3 = n) (hrest : (rest.map fun v => v.category).sum ≤ 8) (k : ∀ (r : Option Value) (μ' : Mem), Qy r μ' → V G l RL cc nL dep lg ret Q n lo (r.toList ++ rest) μ') : V G l RL cc nL dep lg ret Q pc lo (a1 :: a0 :: .ref (G.2.2.1 125) :: rest) μ := R_callV (ci := 8) (id := 125) (As := [a0, a1]) hct hd (by decide) rfl tM_RL_119 tI_yX8_days tS_yX8_days tN_RX8 tC_yX8_days ok_yX8_days rfl rfl sh_125 rfl hrest hdg hn k
theorem ok_yX8_isFirst : okY yX8_isFirst 1 := ⟨by decide +kernel, by decide +kernel, by decide +kernel⟩
theorem iv_X8_199 {dep' : Nat} {Qy : Option Value → Mem → Prop} {rest : List Value} {a0 : Value} (hct : Ct G l dep' yX8_isFirst cX8_isFirst 2 (Option.some Jvm.ClassFile.FieldType.boolean) [Value.ref (G.2.2.1 125), a0] μ Qy) (hd : dep' < dep) (hdg : decode cc pc = .ok (.invokevirtual 199, 3)) (hn : pc + 3 = n) (hrest : (rest.map fun v => v.category).sum ≤ 8) (k : ∀ (r : Option Value) (μ' : Mem), Qy r μ' → V G l RX8 cc nL dep lg ret Q n lo (r.toList ++ rest) μ') : V G l RX8 cc nL dep lg ret Q pc lo (a0 :: .ref (G.2.2.1 125) :: rest) μ := R_callV (ci := 8) (id := 125) (As := [a0]) hct hd (by decide) rfl tM_RX8_199 tI_yX8_isFirst tS_yX8_isFirst tN_RX8 tC_yX8_isFirst ok_yX8_isFirst rfl rfl sh_125 rfl hrest hdg hn k
theorem ok_yX8_keep : okY yX8_keep 1 := ⟨by decide +kernel, by decide +kernel, by decide +kernel⟩
theorem iv_L_123 {dep' : Nat} {Qy : Option Value → Mem → Prop} {rest : List Value} {a0 : Value} (hct : Ct G l dep' yX8_keep cX8_keep 3 (Option.some Jvm.ClassFile.FieldType.int) [Value.ref (G.2.2.1 125), a0] μ Qy) (hd : dep' < dep) (hdg : decode cc pc = .ok (.invokevirtual 123, 3)) (hn : pc + 3 = n) (hrest : (rest.map fun v => v.category).sum ≤ 8) (k : ∀ (r : Option Value) (μ' : Mem), Qy r μ' → V G l RL cc nL dep lg ret Q n lo (r.toList ++ rest) μ') : V G l RL cc nL dep lg ret Q pc lo (a0 :: .ref (G.2.2.1 125) :: rest) μ := R_callV (ci := 8) (id := 125) (As := [a0]) hct hd (by decide) rfl tM_RL_123 tI_yX8_keep tS_yX8_keep tN_RX8 tC_yX8_keep ok_yX8_keep rfl rfl sh_125 rfl hrest hdg hn k
theorem ok_yX8_again : okY yX8_again 1 := ⟨by decide +kernel, by decide +kernel, by decide +kernel⟩
theorem iv_L_127 {dep' : Nat} {Qy : Option Value → Mem → Prop} {rest : List Value} {a0 : Value} (hct : Ct G l dep' yX8_again cX8_again 3 (Option.some Jvm.ClassFile.FieldType.int) [Value.ref (G.2.2.1 125), a0] μ Qy) (hd : dep' < dep) (hdg : decode cc pc = .ok (.invokevirtual 127, 3)) (hn : pc + 3 = n) (hrest : (rest.map fun v => v.category).sum ≤ 8) (k : ∀ (r : Option Value) (μ' : Mem), Qy r μ' → V G l RL cc nL dep lg ret Q n lo (r.toList ++ rest) μ') : V G l RL cc nL dep lg ret Q pc lo (a0 :: .ref (G.2.2.1 125) :: rest) μ := R_callV (ci := 8) (id := 125) (As := [a0]) hct hd (by decide) rfl tM_RL_127 tI_yX8_again tS_yX8_again tN_RX8 tC_yX8_again ok_yX8_again rfl rfl sh_125 rfl hrest hdg hn k
theorem ok_yX8_count : okY yX8_count 1 := ⟨by decide +kernel, by decide +kernel, by decide +kernel⟩
theorem iv_L_131 {dep' : Nat} {Qy : Option Value → Mem → Prop} {rest : List Value} {a0 : Value} (hct : Ct G l dep' yX8_count cX8_count 2 (Option.some Jvm.ClassFile.FieldType.int) [Value.ref (G.2.2.1 125), a0] μ Qy) (hd : dep' < dep) (hdg : decode cc pc = .ok (.invokevirtual 131, 3)) (hn : pc + 3 = n) (hrest : (rest.map fun v => v.category).sum ≤ 8) (k : ∀ (r : Option Value) (μ' : Mem), Qy r μ' → V G l RL cc nL dep lg ret Q n lo (r.toList ++ rest) μ') : V G l RL cc nL dep lg ret Q pc lo (a0 :: .ref (G.2.2.1 125) :: rest) μ := R_callV (ci := 8) (id := 125) (As := [a0]) hct hd (by decide) rfl tM_RL_131 tI_yX8_count tS_yX8_count tN_RX8 tC_yX8_count ok_yX8_count rfl rfl sh_125 rfl hrest hdg hn k
theorem ok_yX8_sumOf : okY yX8_sumOf 2 := ⟨by decide +kernel, by decide +kernel, by decide +kernel⟩
theorem iv_X8_202 {dep' : Nat} {Qy : Option Value → Mem → Prop} {rest : List Value} {a0 a1 : Value} (hct : Ct G l dep' yX8_sumOf cX8_sumOf 5 (Option.some Jvm.ClassFile.FieldType.int) [Value.ref (G.2.2.1 125), a0, a1] μ Qy) (hd : dep' < dep) (hdg : decode cc pc = .ok (.invokevirtual 202, 3)) (hn : pc + 3 = n) (hrest : (rest.map fun v => v.category).sum ≤ 8) (k : ∀ (r : Option Value) (μ' : Mem), Qy r μ' → V G l RX8 cc nL dep lg ret Q n lo (r.toList ++ rest) μ') : V G l RX8 cc nL dep lg ret Q pc lo (a1 :: a0 :: .ref (G.2.2.1 125) :: rest) μ := R_callV (ci := 8) (id := 125) (As := [a0, a1]) hct hd (by decide) rfl tM_RX8_202 tI_yX8_sumOf tS_yX8_sumOf tN_RX8 tC_yX8_sumOf ok_yX8_sumOf rfl rfl sh_125 rfl hrest hdg hn k
theorem iv_X2_91 {dep' : Nat} {Qy : Option Value → Mem → Prop} {rest : List Value} {a0 a1 : Value} (hct : Ct G l dep' yX7_power cX7_power 4 (Option.some Jvm.ClassFile.FieldType.int) [a0, a1] μ Qy) (hd : dep' < dep) (hdg : decode cc pc = .ok (.invokestatic 91, 3)) (hn : pc + 3 = n) (hrest : (rest.map fun v => v.category).sum ≤ 8) (k : ∀ (r : Option Value) (μ' : Mem), Qy r μ' → V G l RX2 cc nL dep lg ret Q n lo (r.toList ++ rest) μ') : V G l RX2 cc nL dep lg ret Q pc lo (a1 :: a0 :: rest) μ := R_callN rfl hct hd (by decide) tT_yX7_power tN_RX7 tC_yX7_power ok_yX7_power rfl rfl hrest hdg hn k
end VC
end
